section
/-! ===== BEGIN words of one list among another's, by their places ===== -/
theorem goodIn_r {big : List Cond} (ws : List Cond) (ps : List Nat) (hp : ws = ps.filterMap (fun i => big[i]?)) (h : ws.all goodWord = true) : GoodIn big ws := by
  intro w hw
  have h1 := List.all_eq_true.mp h w hw
  rw [hp] at hw
  obtain ⟨i, -, hi⟩ := List.mem_filterMap.mp hw
  have hm : w ∈ big := by first | exact List.mem_of_getElem? hi | exact List.getElem?_mem hi
  exact ⟨hm, good_of_word h1⟩
theorem goodIn_app {big a b : List Cond} (ha : GoodIn big a) (hb : GoodIn big b) : GoodIn big (a ++ b) := fun w h => (List.mem_append.mp h).elim (ha w) (hb w)
theorem goodIn_ca {big a b : List Cond} {c : Cond} (ha : GoodIn big (c :: a)) (hb : GoodIn big b) : GoodIn big (c :: (a ++ b)) := fun w h => (List.mem_cons.mp h).elim (fun e => ha w (List.mem_cons.mpr (Or.inl e))) (fun h => (List.mem_append.mp h).elim (fun h => ha w (List.mem_cons.mpr (Or.inr h))) (hb w))
theorem goodIn_sub {big ws : List Cond} (hm : ∀ w ∈ ws, w ∈ big) (h : ws.all goodWord = true) : GoodIn big ws := fun w hw => ⟨hm w hw, good_of_word (List.all_eq_true.mp h w hw)⟩
/-! ===== END ===== -/

/-! ===== BEGIN exceptions that leave a method, and their catching by the caller (launches without stack traces) ===== -/
section VXA
/-! The laws vx_back, vx_callV, vx_callS, vx_callSW, vx_throw0, vx_throwS follow proofs of the library, with one case more: JvmDerived/Free/Laws.lean (Back.of_free), Shelf42/LK1.lean (callV, callS), Shelf/KitTraced.lean (throwNew0V, throwNewS). -/
/-- where a method has thrown q: the class by its name, the cell, what was written, the world -/
def vx_T (XC : String → State → State → Prop) (st : State) (q : Addr) (t : State) (mc ms : Nat) (free : Addr → Prop) : Prop :=
  ∃ (E : String) (ce : Cell) (L : List Loc), XC E st t ∧ t.heap[q]? = some ce ∧ ce.vm = .none ∧ st.vm.findClass E = some ce.cls ∧ st.WarmedH t.vm ∧ st.sameButNew ({ t with vm := st.vm } : State) L mc ms ∧ ∀ z ∈ L, free z.base
def vx_Q (Qc : Array Value → State → Outcome → State → Prop) (XC : String → State → State → Prop) (mc ms : Nat) (free : Addr → Prop) : Array Value → State → Outcome → State → Prop := fun a st o t =>
  (Qc a st o t ∧ ∃ L, FrameEnd st o t L mc ms ∧ ∀ q ∈ L, free q.base) ∨ ∃ q, o = .threw q ∧ vx_T XC st q t mc ms free
/-- a callee that returns or throws -/
def vx_Met (l : Launch) (y : MethodName) (ws : List Cond) (rm : Room) (Pc : Array Value → State → Prop) (Qc : Array Value → State → Outcome → State → Prop) (XC : String → State → State → Prop) (mc ms : Nat) (free : Addr → Prop) : Prop :=
  MetFree l y (headSpec ws rm) Pc (fun _ _ _ _ _ => True) (vx_Q Qc XC mc ms free)
def vx_Post (XC : String → State → State → Prop) (mc ms : Nat) (free : Addr → Prop) : Pt → Array Value → Addr → Pt → Prop := fun A a q B =>
  ∃ (g : JFrame) (mk : MethodId) (t : State) (L : List Loc) (E : String) (ce : Cell), B.U.heap = t.heap ∧ B.U.vm = t.vm ∧ XC E (A.U.calling g mk a) t ∧ t.heap[q]? = some ce ∧ ce.vm = .none ∧ A.U.vm.findClass E = some ce.cls ∧ B.locs = A.locs ++ L ∧ (∀ z ∈ L, free z.base) ∧ B.cells = A.cells + mc ∧ B.slots = A.slots + ms
def vx_Back (l : Launch) (R : Room) (p : Program) (e : Env) (below : List Frame) (s : State) (sargs : Array Value) (y : MethodName) (len W9 : Nat)
    (Pre : Pt → Array Value → Prop) (Post : Pt → Array Value → Option Value → Pt → Prop) (PostX : Pt → Array Value → Addr → Pt → Prop) : Prop :=
  ∀ (m : MethodId) (meth : Method) (c : Code) (A : Pt) (g : JFrame) (ig : Instr) (mk : MethodId) (a : Array Value),
    Stand p l e R s m sargs below meth c A.U A.locs A.cells A.slots → g.method = m → g.locals.size = c.maxLocals → decode c.code g.pc = .ok (ig, len) →
    2 * g.monitorRoom + (g.stack.map fun v => v.category).sum ≤ W9 → A.U.methodNamed? y = some mk → Pre A a →
    (∃ (v : Option Value) (B : Pt), Stand p l e R s m sargs below meth c B.U B.locs B.cells B.slots ∧ Post A a v B ∧
      Steps p.tables e below (doInvoke e (A.U.setTop g) [] mk a).1 (B.U.setTop { g with pc := g.pc + len, stack := v.toList ++ g.stack })) ∨
    (∃ (q : Addr) (B : Pt), Stand p l e R s m sargs below meth c B.U B.locs B.cells B.slots ∧ PostX A a q B ∧
      Steps p.tables e below (doInvoke e (A.U.setTop g) [] mk a).1 ((B.U.setTop g).pushFrame (.throwing q)))
section Payer
variable {l : Launch} {R : Room} {p : Program} {e : Env} {below : List Frame} {s : State} {sargs : Array Value} {y : MethodName} {len W9 : Nat}
theorem vx_back {ws : List Cond} {rm : Room} {Pc : Array Value → State → Prop} {Qc : Array Value → State → Outcome → State → Prop} {XC : String → State → State → Prop} {mc ms : Nat} {free : Addr → Prop} {bytes : ByteArray} {maxL : Nat} {ret : Option FieldType}
    (hM : vx_Met l y ws rm Pc Qc XC mc ms free) (hblind : FrameBlind Pc) (hrc : rm.cells = mc) (hrs : rm.slots = ms)
    (hframes : rm.frames + 1 ≤ R.frames) (hlocals : W9 + (maxL + 11) + rm.locals ≤ R.locals)
    (hws : ∀ w ∈ ws, ∀ a' U, s.WarmedH U.vm → w.before a' U = true) (hcode : Cond.code y bytes maxL ret ∈ ws) (hinit : ∀ a' U, s.WarmedH U.vm → (Cond.initialized y.cls).before a' U = true) :
    vx_Back l R p e below s sargs y len W9 (PreOf R mc ms Pc) (PostOf Qc mc ms free) (vx_Post XC mc ms free) := by
  intro m meth c A g ig mk a X hg hsize hdg hW hn hp
  have h1 : (headSpec ws rm).pre.before a A.U = true := atoms_intro fun w hw => hws w hw _ _ X.warmed
  have h2 : (Cond.code y bytes maxL ret).before a A.U = true := hws _ hcode _ _ X.warmed
  have h3 : (Cond.initialized y.cls).before a A.U = true := hinit _ _ X.warmed
  have h4 : A.cells + (headSpec ws rm).room.cells ≤ R.cells := by rw [show (headSpec ws rm).room.cells = mc from hrc]; exact hp.1
  have h5 : A.slots + (headSpec ws rm).room.slots ≤ R.slots := by rw [show (headSpec ws rm).room.slots = ms from hrs]; exact hp.2.1
  have hPc : Pc a (A.U.calling g mk a) := hblind _ _ _ _ hp.2.2
  obtain ⟨U, Ls, c0, s0⟩ := A
  dsimp only [Pt.U, Pt.locs, Pt.cells, Pt.slots] at h1 h2 h3 h4 h5 X hn hPc ⊢
  obtain ⟨methY, cY, hmY, hcY, -, hlY, -, -, -, -⟩ := Cond.code_spec hn h2
  obtain ⟨kY, hkY, -⟩ := className_of_methodNamed hn
  have hinitY : kY.init = .initialized := Cond.initialized_spec (findClass_of_methodNamed hn) hkY h3
  have h : At U g.method c below := by rw [hg]; exact X.here
  have hlocals9 : W9 + (maxL + 11) + (headSpec ws rm).room.locals ≤ R.locals := hlocals
  have happ : (headSpec ws rm).appliesLoose y e.platform (U.calling g mk a) = true :=
    Spec.appliesLoose_calling (g := g) h hdg hn hkY hinitY
      (X.room_calling (g := g) (R' := (headSpec ws rm).room) hsize hmY hcY hframes (by rw [hlY]; omega) h4 h5) h1
  obtain ⟨mid, hmid⟩ := h.above
  have hfr : (U.setTop g).frames = (.java g :: mid) ++ below := by rw [State.frames_setTop' g h.top, hmid]; rfl
  obtain ⟨o, s₂, hsteps, -, hend, hq⟩ := Steps.callFree hM p X.admits X.cas X.clock (acts := []) hfr happ hPc trivial
  have hq' : vx_Q Qc XC mc ms free a (U.calling g mk a) o s₂ := hq
  rw [State.frames_setTop' g h.top] at hend
  obtain ⟨g₀, hg0⟩ := Option.isSome_iff_exists.mp h.top
  obtain ⟨r, hr⟩ := State.topJava?_eq_some.mp hg0
  have hr' : (({ U with heap := s₂.heap, slotsUsed := s₂.slotsUsed } : State).setVm s₂.vm).frames = .java g₀ :: r := hr
  rcases hq' with ⟨hqc, L, hfe, hL⟩ | ⟨q, rfl, E, ce, L, hx, hce, hcv, hcl, hW₂, hsm, hL⟩
  · obtain ⟨⟨v, rfl⟩, hW₂, e2, q2, q3, q4, q5, q6⟩ := id hfe
    have e3 : s₂ = ({ (U.calling g mk a).setFrames s₂.frames with heap := s₂.heap, slotsUsed := s₂.slotsUsed } : State).setVm s₂.vm := by
      have : s₂ = ({ s₂ with vm := (U.calling g mk a).vm } : State).setVm s₂.vm := rfl
      rw [e2] at this
      exact this
    obtain ⟨c₂, i₂, len₂, hc₂, hd₂, hf₂⟩ := hend
    have hW' : U.WarmedH s₂.vm := hW₂
    have hcc : c₂ = c := by
      have h1 : s₂.code? g.method = U.code? g.method := by
        rw [State.code?_eq, State.code?_eq, hW'.alike.method?]
      exact Option.some.inj (hc₂.symm.trans (h1.trans h.code))
    subst hcc
    have hlen : len₂ = len := by rw [hdg] at hd₂; cases hd₂; rfl
    subst hlen
    have hs₂ : s₂ = (({ U with heap := s₂.heap, slotsUsed := s₂.slotsUsed } : State).setVm s₂.vm).setTop { g with pc := g.pc + len₂, stack := v.toList ++ g.stack } := by
      refine e3.trans ?_
      rw [hf₂, State.calling_eq h.top, State.setFrames_setFrames, State.setTop_of_frames _ hr', hr]
      rfl
    have hsame : U.sameButNew ({ U with heap := s₂.heap, slotsUsed := s₂.slotsUsed } : State) L mc ms := by
      refine ⟨?_, q2, q3, q4, q5, q6⟩
      obtain ⟨t, ht, -⟩ := State.frames_cons hr
      show ({ U with heap := s₂.heap, slotsUsed := s₂.slotsUsed } : State) = { U.setFrames U.frames with heap := s₂.heap, slotsUsed := s₂.slotsUsed }
      rw [State.setFrames_self ht]
    subst hg
    refine Or.inl ⟨v, ⟨(({ U with heap := s₂.heap, slotsUsed := s₂.slotsUsed } : State).setVm s₂.vm), Ls ++ L, c0 + mc, s0 + ms⟩,
      ⟨X.admits, X.cas, X.clock, X.frames, X.room, X.hears, X.method, X.code, (X.here.setHeapUsed s₂.heap s₂.slotsUsed).setVm hW'.alike, X.tail, State.WarmedH.trans X.warmed hW', X.limits, X.bytes, X.same.trans (hsame.setVm s.vm)⟩,
      ⟨g, mk, s₂, L, rfl, rfl, hqc, rfl, hL, rfl, rfl⟩, ?_⟩
    show Steps p.tables e below _ ((({ U with heap := s₂.heap, slotsUsed := s₂.slotsUsed } : State).setVm s₂.vm).setTop { g with pc := g.pc + len₂, stack := v.toList ++ g.stack })
    rw [← hs₂]
    exact hsteps
  · obtain ⟨e2, q2, q3, q4, q5, q6⟩ := id hsm
    have e3 : s₂ = ({ (U.calling g mk a).setFrames s₂.frames with heap := s₂.heap, slotsUsed := s₂.slotsUsed } : State).setVm s₂.vm := by
      have : s₂ = ({ s₂ with vm := (U.calling g mk a).vm } : State).setVm s₂.vm := rfl
      rw [e2] at this
      exact this
    have hf₂ : s₂.frames = .throwing q :: .java g :: U.frames.tail := hend
    have hW' : U.WarmedH s₂.vm := hW₂
    have hs₂ : s₂ = ((({ U with heap := s₂.heap, slotsUsed := s₂.slotsUsed } : State).setVm s₂.vm).setTop g).pushFrame (.throwing q) := by
      refine e3.trans ?_
      rw [hf₂, State.calling_eq h.top, State.setFrames_setFrames, State.pushFrame, State.frames_setTop _ hr', State.setTop_of_frames _ hr', State.setFrames_setFrames, hr]
      rfl
    have hsame : U.sameButNew ({ U with heap := s₂.heap, slotsUsed := s₂.slotsUsed } : State) L mc ms := by
      refine ⟨?_, q2, q3, q4, q5, q6⟩
      obtain ⟨t, ht, -⟩ := State.frames_cons hr
      show ({ U with heap := s₂.heap, slotsUsed := s₂.slotsUsed } : State) = { U.setFrames U.frames with heap := s₂.heap, slotsUsed := s₂.slotsUsed }
      rw [State.setFrames_self ht]
    subst hg
    refine Or.inr ⟨q, ⟨(({ U with heap := s₂.heap, slotsUsed := s₂.slotsUsed } : State).setVm s₂.vm), Ls ++ L, c0 + mc, s0 + ms⟩,
      ⟨X.admits, X.cas, X.clock, X.frames, X.room, X.hears, X.method, X.code, (X.here.setHeapUsed s₂.heap s₂.slotsUsed).setVm hW'.alike, X.tail, State.WarmedH.trans X.warmed hW', X.limits, X.bytes, X.same.trans (hsame.setVm s.vm)⟩,
      ⟨g, mk, s₂, L, E, ce, rfl, rfl, hx, hce, hcv, hcl, rfl, hL, rfl, rfl⟩, ?_⟩
    show Steps p.tables e below _ (((({ U with heap := s₂.heap, slotsUsed := s₂.slotsUsed } : State).setVm s₂.vm).setTop g).pushFrame (.throwing q))
    rw [← hs₂]
    exact hsteps
end Payer
section Calls
variable {p : Program} {l : Launch} {e : Env} {R : Room} {s : State} {m : MethodId} {args : Array Value} {below : List Frame} {meth : Method} {c : Code} {T : State} {locs : List Loc} {cells slots : Nat}
theorem vx_callV (X : Stand p l e R s m args below meth c T locs cells slots) (hexec : p.tables.exec = Jvm.exec) {own C : String} {index : Nat} {y : MethodName} {bytes : ByteArray} {maxL : Nat} {ret : Option FieldType}
    (hown : s.vm.findClass own = some m.cls) (hlink : (Cond.methodLink own index y).before args s = true) (hinst : (Cond.instanceMethod y).before args s = true) (hsel : (Cond.selects C y y).before args s = true)
    (hcode : (Cond.code y bytes maxL ret).before args s = true) (hy : y.cls ≠ "java/lang/invoke/MethodHandle" ∧ y.cls ≠ "java/lang/invoke/VarHandle")
    {W9 : Nat} {Pre : Pt → Array Value → Prop} {Post : Pt → Array Value → Option Value → Pt → Prop} {PostX : Pt → Array Value → Addr → Pt → Prop} (hK : vx_Back l R p e below s args y 3 W9 Pre Post PostX)
    {b : Addr} {cellB : Cell} (hcell : T.heap[b]? = some cellB) (hobj : cellB.vm.isStatics = false) (hcls : s.vm.findClass C = some cellB.cls)
    {g : JFrame} (hg : g.method = m) (hsize : g.locals.size = c.maxLocals) {argsL rest : List Value} (hlen : ∀ sig, parseMethodDescriptor y.desc = some sig → argsL.length = sig.parameters.length)
    (hstack : g.stack = argsL.reverse ++ .ref b :: rest) (hW : 2 * g.monitorRoom + (rest.map fun v => v.category).sum ≤ W9) (hdg : decode c.code g.pc = .ok (.invokevirtual index, 3))
    (hpre : ∀ vm₁, s.WarmedH vm₁ → Pre ⟨T.setVm vm₁, locs, cells, slots⟩ (Value.ref b :: argsL).toArray) :
    (∃ (v : Option Value) (vm₁ : Vm) (B : Pt), s.WarmedH vm₁ ∧ Stand p l e R s m args below meth c B.U B.locs B.cells B.slots ∧ Post ⟨T.setVm vm₁, locs, cells, slots⟩ (Value.ref b :: argsL).toArray v B ∧
      ∀ target, Steps p.tables e below (B.U.setTop { g with pc := g.pc + 3, stack := v.toList ++ rest }) target → Steps p.tables e below (T.setTop g) target) ∨
    (∃ (q : Addr) (vm₁ : Vm) (B : Pt), s.WarmedH vm₁ ∧ Stand p l e R s m args below meth c B.U B.locs B.cells B.slots ∧ PostX ⟨T.setVm vm₁, locs, cells, slots⟩ (Value.ref b :: argsL).toArray q B ∧
      Steps p.tables e below (T.setTop g) ((B.U.setTop { g with stack := rest }).pushFrame (.throwing q))) := by
  obtain ⟨mk, methM, hnamed, hmethM, hstM, habM⟩ := Cond.instanceMethod_spec hinst
  obtain ⟨methM', cM, hmethM', -, -, -, -, -, -, hsigM⟩ := Cond.code_spec hnamed hcode
  cases hmethM.symm.trans hmethM'
  obtain ⟨c2, r2, m2, q1, q2, q3, q4, kP, hkP, hkPi⟩ := Cond.selects_spec hsel
  cases hcls.symm.trans q1
  cases (State.methodFound?_of_named hnamed hy).symm.trans q2
  cases hnamed.symm.trans q3
  have hselP : selectMethod e.platform s.vm cellB.cls mk = .method mk := by rw [Launch.admits_selectMethod X.admits]; exact q4
  obtain ⟨vm₁, X₁, hstep₁⟩ := X.invokevirtual hexec hown hlink hnamed hmethM hstM hkP hkPi hy (a := b) (cell := cellB) hcell
    (fun z h => by rw [h] at hobj; cases hobj) hselP hmethM habM hkP hkPi (g := g) hg (argsL := argsL) (rest := rest) (hlen _ hsigM) hstack hdg
  rcases hK m meth c ⟨T.setVm vm₁, locs, cells, slots⟩ { g with stack := rest } (.invokevirtual index) mk (Value.ref b :: argsL).toArray X₁ hg hsize hdg hW (X₁.named hnamed) (hpre vm₁ X₁.warmed) with ⟨v, B, X', hpost, hsteps⟩ | ⟨q, B, X', hpost, hsteps⟩
  · exact Or.inl ⟨v, vm₁, B, X₁.warmed, X', hpost, fun target h => hstep₁ _ fun acts => by rw [doInvoke_state]; exact hsteps.trans h⟩
  · exact Or.inr ⟨q, vm₁, B, X₁.warmed, X', hpost, hstep₁ _ fun acts => by rw [doInvoke_state]; exact hsteps⟩
theorem vx_callS (X : Stand p l e R s m args below meth c T locs cells slots) (hexec : p.tables.exec = Jvm.exec) {own : String} {index : Nat} {y : MethodName} {bytes : ByteArray} {maxL : Nat} {ret : Option FieldType}
    (hown : s.vm.findClass own = some m.cls) (hlink : (Cond.methodLink own index y).before args s = true) (hstat : (Cond.static y).before args s = true) (hinit : (Cond.initialized y.cls).before args s = true)
    (hcode : (Cond.code y bytes maxL ret).before args s = true) (hy : y.cls ≠ "java/lang/invoke/MethodHandle" ∧ y.cls ≠ "java/lang/invoke/VarHandle")
    {W9 : Nat} {Pre : Pt → Array Value → Prop} {Post : Pt → Array Value → Option Value → Pt → Prop} {PostX : Pt → Array Value → Addr → Pt → Prop} (hK : vx_Back l R p e below s args y 3 W9 Pre Post PostX)
    {g : JFrame} (hg : g.method = m) (hsize : g.locals.size = c.maxLocals) {argsL rest : List Value} (hlen : ∀ sig, parseMethodDescriptor y.desc = some sig → argsL.length = sig.parameters.length)
    (hstack : g.stack = argsL.reverse ++ rest) (hW : 2 * g.monitorRoom + (rest.map fun v => v.category).sum ≤ W9) (hdg : decode c.code g.pc = .ok (.invokestatic index, 3))
    (hpre : ∀ vm₁, s.WarmedH vm₁ → Pre ⟨T.setVm vm₁, locs, cells, slots⟩ argsL.toArray) :
    (∃ (v : Option Value) (vm₁ : Vm) (B : Pt), s.WarmedH vm₁ ∧ Stand p l e R s m args below meth c B.U B.locs B.cells B.slots ∧ Post ⟨T.setVm vm₁, locs, cells, slots⟩ argsL.toArray v B ∧
      ∀ target, Steps p.tables e below (B.U.setTop { g with pc := g.pc + 3, stack := v.toList ++ rest }) target → Steps p.tables e below (T.setTop g) target) ∨
    (∃ (q : Addr) (vm₁ : Vm) (B : Pt), s.WarmedH vm₁ ∧ Stand p l e R s m args below meth c B.U B.locs B.cells B.slots ∧ PostX ⟨T.setVm vm₁, locs, cells, slots⟩ argsL.toArray q B ∧
      Steps p.tables e below (T.setTop g) ((B.U.setTop { g with stack := rest }).pushFrame (.throwing q))) := by
  obtain ⟨mk, hnamed⟩ := Cond.code_named hcode
  obtain ⟨methM, cM, hmethM, -, -, -, -, -, -, hsigM⟩ := Cond.code_spec hnamed hcode
  have hstatic : methM.isStatic = true := Cond.static_spec hnamed hmethM hstat
  obtain ⟨kP, hkP, -⟩ := className_of_methodNamed hnamed
  have hinitP : kP.init = .initialized := Cond.initialized_spec (findClass_of_methodNamed hnamed) hkP hinit
  obtain ⟨vm₁, X₁, hstep₁⟩ := X.invokestatic hexec hown hlink hnamed hmethM hstatic hkP hinitP hy (g := g) hg (argsL := argsL) (rest := rest) (hlen _ hsigM) hstack hdg
  rcases hK m meth c ⟨T.setVm vm₁, locs, cells, slots⟩ { g with stack := rest } (.invokestatic index) mk argsL.toArray X₁ hg hsize hdg hW (X₁.named hnamed) (hpre vm₁ X₁.warmed) with ⟨v, B, X', hpost, hsteps⟩ | ⟨q, B, X', hpost, hsteps⟩
  · exact Or.inl ⟨v, vm₁, B, X₁.warmed, X', hpost, fun target h => hstep₁ _ fun acts => by rw [doInvoke_state]; exact hsteps.trans h⟩
  · exact Or.inr ⟨q, vm₁, B, X₁.warmed, X', hpost, hstep₁ _ fun acts => by rw [doInvoke_state]; exact hsteps⟩
end Calls
theorem vx_cls {s : State} {T : State} {vm₁ : Vm} {E : String} {k : ClassId} (hW : s.WarmedH vm₁) (h : (T.setVm vm₁).vm.findClass E = some k) : s.vm.findClass E = some k := by
  have h1 : vm₁.findClass E = some k := h
  rw [hW.alike.findClass] at h1
  exact h1
/-- the method's frame g, with q thrown over it -/
def vx_W (p : Program) (l : Launch) (e : Env) (R : Room) (s : State) (m : MethodId) (args : Array Value) (below : List Frame) (meth : Method) (c : Code) (H : Heap) (locs : List Loc) (cells slots : Nat) (Q : State → Prop) (g : JFrame) (q : Addr) : Prop :=
  ∀ T : State, T.heap = H → Stand p l e R s m args below meth c T locs cells slots → ∃ t, Steps p.tables e below ((T.setTop g).pushFrame (.throwing q)) t ∧ Q t
def vx_Run (p : Program) (l : Launch) (e : Env) (R : Room) (s : State) (m : MethodId) (args : Array Value) (below : List Frame) (meth : Method) (c : Code) (H : Heap) (locs : List Loc) (cells slots mc ms : Nat) (g : JFrame) (rest : List Value) (Qa : State → Outcome → State → Prop) (XC : String → State → State → Prop) (free : Addr → Prop) : Prop :=
  ∀ T : State, T.heap = H → Stand p l e R s m args below meth c T locs cells slots →
    (∃ (v : Option Value) (st₀ t T' : State) (L : List Loc), st₀.heap = H ∧ Stand p l e R s m args below meth c T' (locs ++ L) (cells + mc) (slots + ms) ∧ (∀ q ∈ L, free q.base) ∧ T'.heap = t.heap ∧ T'.vm = t.vm ∧ Qa st₀ (.returned v) t ∧
      Goes p e below T g T' { g with pc := g.pc + 3, stack := v.toList ++ rest }) ∨
    (∃ (q : Addr) (st₀ t T' : State) (L : List Loc) (E : String) (ce : Cell), st₀.heap = H ∧ Stand p l e R s m args below meth c T' (locs ++ L) (cells + mc) (slots + ms) ∧ (∀ z ∈ L, free z.base) ∧ T'.heap = t.heap ∧ T'.vm = t.vm ∧ XC E st₀ t ∧ t.heap[q]? = some ce ∧ ce.vm = .none ∧ s.vm.findClass E = some ce.cls ∧
      Steps p.tables e below (T.setTop g) ((T'.setTop { g with stack := rest }).pushFrame (.throwing q)))
def vx_X {S : Type} (px : S → Prop) (B : String → S → State → Prop) (A : Nat → Prop) : String → State → State → Prop := fun E st t => ∃ u : S, px u ∧ B E u t ∧ va_F A st t
section Runs
variable {p : Program} {l : Launch} {e : Env} {R : Room} {s : State} {m : MethodId} {args : Array Value} {below : List Frame} {meth : Method} {c : Code} {H : Heap} {locs : List Loc} {cells slots : Nat}
variable {y : MethodName} {bytes cc : ByteArray} {maxL nL mc ms n index : Nat} {ret : Option FieldType} {ws : List Cond} {rm : Room} {Pc : Array Value → State → Prop} {Qc : Array Value → State → Outcome → State → Prop} {XC : String → State → State → Prop} {free : Addr → Prop} {Ts : List Cond} {own C : String} {b : Addr} {As rest : List Value} {g : JFrame}
theorem vx_callBack (cb : CallB R s args own index y bytes maxL ret ws rm mc ms n) (hM : vx_Met l y ws rm Pc Qc XC mc ms free) (hbl : FrameBlind Pc) : vx_Back l R p e below s args y 3 8 (PreOf R mc ms Pc) (PostOf Qc mc ms free) (vx_Post XC mc ms free) := by
  obtain ⟨hrc, hrs, hfr, hlo, hws, hcw, -, hini, -⟩ := cb
  exact vx_back (bytes := bytes) (maxL := maxL) (ret := ret) hM hbl hrc hrs hfr hlo hws hcw (fun a' U hW => word_at hW (Or.inl (by first | rfl | simp [Cond.onTables, Cond.keeps, Cond.steady])) hini)
theorem vx_runV (S : CallFix p m c cc nL s args Ts own) (hM : vx_Met l y ws rm Pc Qc XC mc ms free) (cw : CallW R s args own C index y bytes maxL ret ws rm mc ms n) (hp : PreV s H C b Pc As)
    (hg : g.method = m) (hn : As.length = n) (hsize : g.locals.size = nL) (hstack : g.stack = As.reverse ++ .ref b :: rest) (hW : 2 * g.monitorRoom + (rest.map fun v => v.category).sum ≤ 8) (hdg : decode cc g.pc = .ok (.invokevirtual index, 3)) (hf : cells + mc ≤ R.cells ∧ slots + ms ≤ R.slots) :
    vx_Run p l e R s m args below meth c H locs cells slots mc ms g rest (Qc (Value.ref b :: As).toArray) XC free := by
  have hK : vx_Back l R p e below s args y 3 8 (PreOf R mc ms Pc) (PostOf Qc mc ms free) (vx_Post XC mc ms free) := vx_callBack cw.1 hM hp.1
  obtain ⟨⟨-, -, -, -, -, -, hcode, -, hy, hlen, hl⟩, hin, hse⟩ := cw
  obtain ⟨hx, hb, hml, ho, -⟩ := S
  obtain ⟨-, ⟨cellB, hcB, hoB, hclB⟩, hPc⟩ := hp
  intro T hT X
  rcases vx_callV X hx (C := C) (bytes := bytes) (maxL := maxL) (ret := ret) ho hl hin hse hcode hy hK (by rw [hT]; exact hcB) hoB hclB hg (hsize.trans hml.symm) (argsL := As) (rest := rest) (fun sig h => hn.trans (hlen sig h)) hstack hW (by rw [hb]; exact hdg)
    (fun vm₁ hW₁ => ⟨hf.1, hf.2, hPc (T.setVm vm₁) hT hW₁⟩) with ⟨v, vm₁, ⟨U', l2, c2, s2⟩, hW₁, X', ⟨g', mk, t, L, e1, e2, hq, h1, hL, h2, h3⟩, st⟩ | ⟨q, vm₁, ⟨U', l2, c2, s2⟩, hW₁, X', ⟨g', mk, t, L, E, ce, e1, e2, hq, hce, hcv, hcl, h1, hL, h2, h3⟩, st⟩
  · dsimp only [Pt.U, Pt.locs, Pt.cells, Pt.slots] at X' e1 e2 h1 h2 h3 st
    subst h1; subst h2; subst h3
    exact Or.inl ⟨v, (T.setVm vm₁).calling g' mk (Value.ref b :: As).toArray, t, U', L, hT, X', hL, e1, e2, hq, st⟩
  · dsimp only [Pt.U, Pt.locs, Pt.cells, Pt.slots] at X' e1 e2 h1 h2 h3 st hcl
    subst h1; subst h2; subst h3
    exact Or.inr ⟨q, (T.setVm vm₁).calling g' mk (Value.ref b :: As).toArray, t, U', L, E, ce, hT, X', hL, e1, e2, hq, hce, hcv, vx_cls hW₁ hcl, st⟩
theorem vx_runS (S : CallFix p m c cc nL s args Ts own) (hM : vx_Met l y ws rm Pc Qc XC mc ms free) (cw : CallB R s args own index y bytes maxL ret ws rm mc ms n ∧ (Cond.static y).before args s = true) (hp : PreS s H Pc As)
    (hg : g.method = m) (hn : As.length = n) (hsize : g.locals.size = nL) (hstack : g.stack = As.reverse ++ rest) (hW : 2 * g.monitorRoom + (rest.map fun v => v.category).sum ≤ 8) (hdg : decode cc g.pc = .ok (.invokestatic index, 3)) (hf : cells + mc ≤ R.cells ∧ slots + ms ≤ R.slots) :
    vx_Run p l e R s m args below meth c H locs cells slots mc ms g rest (Qc As.toArray) XC free := by
  have hK : vx_Back l R p e below s args y 3 8 (PreOf R mc ms Pc) (PostOf Qc mc ms free) (vx_Post XC mc ms free) := vx_callBack cw.1 hM hp.1
  obtain ⟨⟨-, -, -, -, -, -, hcode, hini, hy, hlen, hl⟩, hstt⟩ := cw
  obtain ⟨hx, hb, hml, ho, -⟩ := S
  intro T hT X
  rcases vx_callS X hx (bytes := bytes) (maxL := maxL) (ret := ret) ho hl hstt hini hcode hy hK hg (hsize.trans hml.symm) (argsL := As) (rest := rest) (fun sig h => hn.trans (hlen sig h)) hstack hW (by rw [hb]; exact hdg)
    (fun vm₁ hW₁ => ⟨hf.1, hf.2, hp.2 (T.setVm vm₁) hT hW₁⟩) with ⟨v, vm₁, ⟨U', l2, c2, s2⟩, hW₁, X', ⟨g', mk, t, L, e1, e2, hq, h1, hL, h2, h3⟩, st⟩ | ⟨q, vm₁, ⟨U', l2, c2, s2⟩, hW₁, X', ⟨g', mk, t, L, E, ce, e1, e2, hq, hce, hcv, hcl, h1, hL, h2, h3⟩, st⟩
  · dsimp only [Pt.U, Pt.locs, Pt.cells, Pt.slots] at X' e1 e2 h1 h2 h3 st
    subst h1; subst h2; subst h3
    exact Or.inl ⟨v, (T.setVm vm₁).calling g' mk As.toArray, t, U', L, hT, X', hL, e1, e2, hq, st⟩
  · dsimp only [Pt.U, Pt.locs, Pt.cells, Pt.slots] at X' e1 e2 h1 h2 h3 st hcl
    subst h1; subst h2; subst h3
    exact Or.inr ⟨q, (T.setVm vm₁).calling g' mk As.toArray, t, U', L, E, ce, hT, X', hL, e1, e2, hq, hce, hcv, vx_cls hW₁ hcl, st⟩
end Runs
section Rows
variable {p : Program} {l : Launch} {e : Env} {R : Room} {s : State} {m : MethodId} {args : Array Value} {below : List Frame} {meth : Method} {c : Code} {H : Heap} {locs : List Loc} {cells slots : Nat} {Q : State → Prop}
variable {mc ms : Nat} {free : Addr → Prop} {A0 A1 : Nat → Prop} {H0 : Heap} {a : Array Value} {pc : Nat} {ls : Array Slot} {st0 rest : List Value}
theorem vx_keep {st₀ t T' : State} {L : List Loc} (h0 : st₀.heap = H) (e1 : T'.heap = t.heap) (hS : va_S A0 H0 H locs) (hA : ∀ q, q < H.size → A1 q → A0 q) (hf : ∀ q, free q → A0 q) (hL : ∀ q ∈ L, free q.base) (hF : va_F A1 st₀ t) :
    H.size ≤ T'.heap.size ∧ (∀ q : Nat, q < H.size → ¬ A1 q → T'.heap[q]? = H[q]?) ∧ va_S A0 H0 T'.heap (locs ++ L) := by
  obtain ⟨hz, hk⟩ := hF
  rw [h0] at hz hk
  exact ⟨by rw [e1]; exact hz, fun q h1 h2 => by rw [e1]; exact hk q h1 h2,
    ⟨Nat.le_trans hS.1 (by rw [e1]; exact hz), fun q h1 h2 => by rw [e1, hk q (Nat.lt_of_lt_of_le h1 hS.1) (fun z => h2 (hA q (Nat.lt_of_lt_of_le h1 hS.1) z))]; exact hS.2.1 q h1 h2, fun q hq => by
      rcases List.mem_append.mp hq with h | h
      · exact hS.2.2 q h
      · exact hf _ (hL q h)⟩⟩
theorem vx_calli {S SX : Type} {post : Int32 → S → Prop} {px : SX → Prop} {B : S → State → Prop} {BX : String → SX → State → Prop} {AX : Nat → Prop} (hr : vx_Run p l e R s m args below meth c H locs cells slots mc ms (F0 m pc ls st0) rest (va_Qi post B A1 a) (vx_X px BX AX) free) (hS : va_S A0 H0 H locs) (hA : ∀ q, q < H.size → A1 q → A0 q) (hf : ∀ q, free q → A0 q) (hAX : ∀ q, q < H.size → AX q → A0 q)
    (kx : ∀ (E : String) (ce : Cell) (q9 : Addr) (u : SX) (t : State) (H1 : Heap) (locs1 : List Loc), t.heap = H1 → s.vm.Alike t.vm → px u → BX E u t → H.size ≤ H1.size → (∀ q : Nat, q < H.size → ¬ AX q → H1[q]? = H[q]?) → va_S A0 H0 H1 locs1 → H1[q9]? = some ce → ce.vm = .none → s.vm.findClass E = some ce.cls → vx_W p l e R s m args below meth c H1 locs1 (cells + mc) (slots + ms) Q (F0 m pc ls rest) q9)
    (kk : ∀ (r : Int32) (u : S) (t : State) (H1 : Heap) (locs1 : List Loc), t.heap = H1 → s.vm.Alike t.vm → post r u → B u t → H.size ≤ H1.size → (∀ q : Nat, q < H.size → ¬ A1 q → H1[q]? = H[q]?) → va_S A0 H0 H1 locs1 → W p l e R s m args below meth c H1 locs1 (cells + mc) (slots + ms) Q (F0 m (pc + 3) ls (.int r :: rest))) : W p l e R s m args below meth c H locs cells slots Q (F0 m pc ls st0) := by
  intro T hT X
  rcases hr T hT X with ⟨v, st₀, t, T', L, h0, X', hL, e1, e2, ⟨⟨r, u, hv, hp, hb⟩, hF⟩, st⟩ | ⟨q, st₀, t, T', L, E, ce, h0, X', hL, e1, e2, ⟨u, hp, hb, hF⟩, hce, hcv, hcl, st⟩
  · cases hv
    obtain ⟨k1, k2, k3⟩ := vx_keep h0 e1 hS hA hf hL hF
    obtain ⟨t2, a1, b1⟩ := kk r u t T'.heap (locs ++ L) e1.symm (by rw [← e2]; exact X'.warmed.alike) hp hb k1 k2 k3 T' rfl X'
    exact ⟨t2, st t2 a1, b1⟩
  · obtain ⟨k1, k2, k3⟩ := vx_keep h0 e1 hS hAX hf hL hF
    obtain ⟨t2, a1, b1⟩ := kx E ce q u t T'.heap (locs ++ L) e1.symm (by rw [← e2]; exact X'.warmed.alike) hp hb k1 k2 k3 (by rw [e1]; exact hce) hcv hcl T' rfl X'
    exact ⟨t2, st.trans a1, b1⟩
theorem vx_calll {S SX : Type} {post : Int64 → S → Prop} {px : SX → Prop} {B : S → State → Prop} {BX : String → SX → State → Prop} {AX : Nat → Prop} (hr : vx_Run p l e R s m args below meth c H locs cells slots mc ms (F0 m pc ls st0) rest (va_Ql post B A1 a) (vx_X px BX AX) free) (hS : va_S A0 H0 H locs) (hA : ∀ q, q < H.size → A1 q → A0 q) (hf : ∀ q, free q → A0 q) (hAX : ∀ q, q < H.size → AX q → A0 q)
    (kx : ∀ (E : String) (ce : Cell) (q9 : Addr) (u : SX) (t : State) (H1 : Heap) (locs1 : List Loc), t.heap = H1 → s.vm.Alike t.vm → px u → BX E u t → H.size ≤ H1.size → (∀ q : Nat, q < H.size → ¬ AX q → H1[q]? = H[q]?) → va_S A0 H0 H1 locs1 → H1[q9]? = some ce → ce.vm = .none → s.vm.findClass E = some ce.cls → vx_W p l e R s m args below meth c H1 locs1 (cells + mc) (slots + ms) Q (F0 m pc ls rest) q9)
    (kk : ∀ (r : Int64) (u : S) (t : State) (H1 : Heap) (locs1 : List Loc), t.heap = H1 → s.vm.Alike t.vm → post r u → B u t → H.size ≤ H1.size → (∀ q : Nat, q < H.size → ¬ A1 q → H1[q]? = H[q]?) → va_S A0 H0 H1 locs1 → W p l e R s m args below meth c H1 locs1 (cells + mc) (slots + ms) Q (F0 m (pc + 3) ls (.long r :: rest))) : W p l e R s m args below meth c H locs cells slots Q (F0 m pc ls st0) := by
  intro T hT X
  rcases hr T hT X with ⟨v, st₀, t, T', L, h0, X', hL, e1, e2, ⟨⟨r, u, hv, hp, hb⟩, hF⟩, st⟩ | ⟨q, st₀, t, T', L, E, ce, h0, X', hL, e1, e2, ⟨u, hp, hb, hF⟩, hce, hcv, hcl, st⟩
  · cases hv
    obtain ⟨k1, k2, k3⟩ := vx_keep h0 e1 hS hA hf hL hF
    obtain ⟨t2, a1, b1⟩ := kk r u t T'.heap (locs ++ L) e1.symm (by rw [← e2]; exact X'.warmed.alike) hp hb k1 k2 k3 T' rfl X'
    exact ⟨t2, st t2 a1, b1⟩
  · obtain ⟨k1, k2, k3⟩ := vx_keep h0 e1 hS hAX hf hL hF
    obtain ⟨t2, a1, b1⟩ := kx E ce q u t T'.heap (locs ++ L) e1.symm (by rw [← e2]; exact X'.warmed.alike) hp hb k1 k2 k3 (by rw [e1]; exact hce) hcv hcl T' rfl X'
    exact ⟨t2, st.trans a1, b1⟩
theorem vx_callf {S SX : Type} {post : UInt32 → S → Prop} {px : SX → Prop} {B : S → State → Prop} {BX : String → SX → State → Prop} {AX : Nat → Prop} (hr : vx_Run p l e R s m args below meth c H locs cells slots mc ms (F0 m pc ls st0) rest (va_Qf post B A1 a) (vx_X px BX AX) free) (hS : va_S A0 H0 H locs) (hA : ∀ q, q < H.size → A1 q → A0 q) (hf : ∀ q, free q → A0 q) (hAX : ∀ q, q < H.size → AX q → A0 q)
    (kx : ∀ (E : String) (ce : Cell) (q9 : Addr) (u : SX) (t : State) (H1 : Heap) (locs1 : List Loc), t.heap = H1 → s.vm.Alike t.vm → px u → BX E u t → H.size ≤ H1.size → (∀ q : Nat, q < H.size → ¬ AX q → H1[q]? = H[q]?) → va_S A0 H0 H1 locs1 → H1[q9]? = some ce → ce.vm = .none → s.vm.findClass E = some ce.cls → vx_W p l e R s m args below meth c H1 locs1 (cells + mc) (slots + ms) Q (F0 m pc ls rest) q9)
    (kk : ∀ (r : UInt32) (u : S) (t : State) (H1 : Heap) (locs1 : List Loc), t.heap = H1 → s.vm.Alike t.vm → post r u → B u t → H.size ≤ H1.size → (∀ q : Nat, q < H.size → ¬ A1 q → H1[q]? = H[q]?) → va_S A0 H0 H1 locs1 → W p l e R s m args below meth c H1 locs1 (cells + mc) (slots + ms) Q (F0 m (pc + 3) ls (.float r :: rest))) : W p l e R s m args below meth c H locs cells slots Q (F0 m pc ls st0) := by
  intro T hT X
  rcases hr T hT X with ⟨v, st₀, t, T', L, h0, X', hL, e1, e2, ⟨⟨r, u, hv, hp, hb⟩, hF⟩, st⟩ | ⟨q, st₀, t, T', L, E, ce, h0, X', hL, e1, e2, ⟨u, hp, hb, hF⟩, hce, hcv, hcl, st⟩
  · cases hv
    obtain ⟨k1, k2, k3⟩ := vx_keep h0 e1 hS hA hf hL hF
    obtain ⟨t2, a1, b1⟩ := kk r u t T'.heap (locs ++ L) e1.symm (by rw [← e2]; exact X'.warmed.alike) hp hb k1 k2 k3 T' rfl X'
    exact ⟨t2, st t2 a1, b1⟩
  · obtain ⟨k1, k2, k3⟩ := vx_keep h0 e1 hS hAX hf hL hF
    obtain ⟨t2, a1, b1⟩ := kx E ce q u t T'.heap (locs ++ L) e1.symm (by rw [← e2]; exact X'.warmed.alike) hp hb k1 k2 k3 (by rw [e1]; exact hce) hcv hcl T' rfl X'
    exact ⟨t2, st.trans a1, b1⟩
theorem vx_calld {S SX : Type} {post : UInt64 → S → Prop} {px : SX → Prop} {B : S → State → Prop} {BX : String → SX → State → Prop} {AX : Nat → Prop} (hr : vx_Run p l e R s m args below meth c H locs cells slots mc ms (F0 m pc ls st0) rest (va_Qd post B A1 a) (vx_X px BX AX) free) (hS : va_S A0 H0 H locs) (hA : ∀ q, q < H.size → A1 q → A0 q) (hf : ∀ q, free q → A0 q) (hAX : ∀ q, q < H.size → AX q → A0 q)
    (kx : ∀ (E : String) (ce : Cell) (q9 : Addr) (u : SX) (t : State) (H1 : Heap) (locs1 : List Loc), t.heap = H1 → s.vm.Alike t.vm → px u → BX E u t → H.size ≤ H1.size → (∀ q : Nat, q < H.size → ¬ AX q → H1[q]? = H[q]?) → va_S A0 H0 H1 locs1 → H1[q9]? = some ce → ce.vm = .none → s.vm.findClass E = some ce.cls → vx_W p l e R s m args below meth c H1 locs1 (cells + mc) (slots + ms) Q (F0 m pc ls rest) q9)
    (kk : ∀ (r : UInt64) (u : S) (t : State) (H1 : Heap) (locs1 : List Loc), t.heap = H1 → s.vm.Alike t.vm → post r u → B u t → H.size ≤ H1.size → (∀ q : Nat, q < H.size → ¬ A1 q → H1[q]? = H[q]?) → va_S A0 H0 H1 locs1 → W p l e R s m args below meth c H1 locs1 (cells + mc) (slots + ms) Q (F0 m (pc + 3) ls (.double r :: rest))) : W p l e R s m args below meth c H locs cells slots Q (F0 m pc ls st0) := by
  intro T hT X
  rcases hr T hT X with ⟨v, st₀, t, T', L, h0, X', hL, e1, e2, ⟨⟨r, u, hv, hp, hb⟩, hF⟩, st⟩ | ⟨q, st₀, t, T', L, E, ce, h0, X', hL, e1, e2, ⟨u, hp, hb, hF⟩, hce, hcv, hcl, st⟩
  · cases hv
    obtain ⟨k1, k2, k3⟩ := vx_keep h0 e1 hS hA hf hL hF
    obtain ⟨t2, a1, b1⟩ := kk r u t T'.heap (locs ++ L) e1.symm (by rw [← e2]; exact X'.warmed.alike) hp hb k1 k2 k3 T' rfl X'
    exact ⟨t2, st t2 a1, b1⟩
  · obtain ⟨k1, k2, k3⟩ := vx_keep h0 e1 hS hAX hf hL hF
    obtain ⟨t2, a1, b1⟩ := kx E ce q u t T'.heap (locs ++ L) e1.symm (by rw [← e2]; exact X'.warmed.alike) hp hb k1 k2 k3 (by rw [e1]; exact hce) hcv hcl T' rfl X'
    exact ⟨t2, st.trans a1, b1⟩
theorem vx_callv {S SX : Type} {post : S → Prop} {px : SX → Prop} {B : S → State → Prop} {BX : String → SX → State → Prop} {AX : Nat → Prop} (hr : vx_Run p l e R s m args below meth c H locs cells slots mc ms (F0 m pc ls st0) rest (va_Qv post B A1 a) (vx_X px BX AX) free) (hS : va_S A0 H0 H locs) (hA : ∀ q, q < H.size → A1 q → A0 q) (hf : ∀ q, free q → A0 q) (hAX : ∀ q, q < H.size → AX q → A0 q)
    (kx : ∀ (E : String) (ce : Cell) (q9 : Addr) (u : SX) (t : State) (H1 : Heap) (locs1 : List Loc), t.heap = H1 → s.vm.Alike t.vm → px u → BX E u t → H.size ≤ H1.size → (∀ q : Nat, q < H.size → ¬ AX q → H1[q]? = H[q]?) → va_S A0 H0 H1 locs1 → H1[q9]? = some ce → ce.vm = .none → s.vm.findClass E = some ce.cls → vx_W p l e R s m args below meth c H1 locs1 (cells + mc) (slots + ms) Q (F0 m pc ls rest) q9)
    (kk : ∀ (u : S) (t : State) (H1 : Heap) (locs1 : List Loc), t.heap = H1 → s.vm.Alike t.vm → post u → B u t → H.size ≤ H1.size → (∀ q : Nat, q < H.size → ¬ A1 q → H1[q]? = H[q]?) → va_S A0 H0 H1 locs1 → W p l e R s m args below meth c H1 locs1 (cells + mc) (slots + ms) Q (F0 m (pc + 3) ls (rest))) : W p l e R s m args below meth c H locs cells slots Q (F0 m pc ls st0) := by
  intro T hT X
  rcases hr T hT X with ⟨v, st₀, t, T', L, h0, X', hL, e1, e2, ⟨⟨u, hv, hp, hb⟩, hF⟩, st⟩ | ⟨q, st₀, t, T', L, E, ce, h0, X', hL, e1, e2, ⟨u, hp, hb, hF⟩, hce, hcv, hcl, st⟩
  · cases hv
    obtain ⟨k1, k2, k3⟩ := vx_keep h0 e1 hS hA hf hL hF
    obtain ⟨t2, a1, b1⟩ := kk u t T'.heap (locs ++ L) e1.symm (by rw [← e2]; exact X'.warmed.alike) hp hb k1 k2 k3 T' rfl X'
    exact ⟨t2, st t2 a1, b1⟩
  · obtain ⟨k1, k2, k3⟩ := vx_keep h0 e1 hS hAX hf hL hF
    obtain ⟨t2, a1, b1⟩ := kx E ce q u t T'.heap (locs ++ L) e1.symm (by rw [← e2]; exact X'.warmed.alike) hp hb k1 k2 k3 (by rw [e1]; exact hce) hcv hcl T' rfl X'
    exact ⟨t2, st.trans a1, b1⟩
/-- caught by the row x of this method's table; the rows ahead don't take it -/
theorem vx_catch {own name : String} {E : String} {ce : Cell} {q : Addr} (hown : s.vm.findClass own = some m.cls) (pre : List ExceptionTableEntry) (x : ExceptionTableEntry) (suf : List ExceptionTableEntry) (hsplit : c.exceptionTable.toList = pre ++ x :: suf)
    (hpass : ∀ z ∈ pre, covers z pc = false ∨ (z.catchType ≠ 0 ∧ ∃ nm : String, (Cond.classLink own z.catchType nm).before args s = true ∧ va_Nc E nm s)) (hx : covers x pc = true) (h0 : x.catchType ≠ 0)
    (hlink : (Cond.classLink own x.catchType name).before args s = true) (hcast : (Cond.castable E name).before args s = true) (hcell : H[q]? = some ce) (hv : ce.vm = .none) (hcl : s.vm.findClass E = some ce.cls)
    (kk : W p l e R s m args below meth c H locs cells slots Q (F0 m x.handlerPc ls [.ref q])) : vx_W p l e R s m args below meth c H locs cells slots Q (F0 m pc ls rest) q := by
  intro T hT X
  have hpl : e.platform.magicAccessors = ({} : Platform).magicAccessors := by rw [X.admits.platform]
  obtain ⟨c3, c4, hc3, hc4, hasg⟩ := Cond.castable_spec hcast
  cases Option.some.inj (hc3.symm.trans hcl)
  obtain ⟨c5, hc5, hcl5⟩ := Cond.classLink_spec hown hlink e.platform hpl
  cases Option.some.inj (hc4.symm.trans hc5)
  obtain ⟨vm', X', st⟩ := X.thenCaughtThrough q (g := F0 m pc ls rest) rfl (Steps.refl _) (by rw [hT]; exact hcell) (by rw [hv]; rfl) (by obtain ⟨k9, h9, -⟩ := Vm.findClass_spec hcl; exact ⟨k9, h9⟩) pre x suf hsplit
    (fun z hz => by
      rcases hpass z hz with h | ⟨hz0, nm, hl1, hn1⟩
      · exact Or.inl h
      · obtain ⟨c6, hc6, hcl6⟩ := Cond.classLink_spec hown hl1 e.platform hpl
        obtain ⟨a8, b8, h1, h2, h3⟩ := hn1
        cases Option.some.inj (h1.symm.trans hcl)
        cases Option.some.inj (h2.symm.trans hc6)
        exact Or.inr ⟨hz0, _, hcl6, h3⟩) hx (Or.inr ⟨h0, c4, hcl5, hasg⟩)
  obtain ⟨t, a1, b1⟩ := kk (T.setVm vm') hT X'
  exact ⟨t, st.trans a1, b1⟩
end Rows
section Ends
variable {p : Program} {l : Launch} {e : Env} {R : Room} {s : State} {m : MethodId} {args : Array Value} {below : List Frame} {meth : Method} {c : Code} {H : Heap} {locs : List Loc} {cells slots : Nat} {Q : State → Prop}
variable {mc ms : Nat} {free : Addr → Prop} {A0 A1 : Nat → Prop} {H0 : Heap} {a : Array Value} {ls : Array Slot} {st0 rest : List Value}
variable {Qc : Array Value → State → Outcome → State → Prop} {XC : String → State → State → Prop}
/-- what a body that may throw owes at its end -/
def vx_MQ (below : List Frame) (Qc : Array Value → State → Outcome → State → Prop) (XC : String → State → State → Prop) (a : Array Value) (s : State) (mc ms : Nat) (free : Addr → Prop) : State → Prop := fun t =>
  ∃ o, t.status = .running ∧ Ended t below o ∧ vx_Q Qc XC mc ms free a s o t
theorem vx_ret {g : JFrame} {mc ms : Nat} (k : W p l e R s m args below meth c H locs cells slots (MQ below Qc args s mc ms free) g) : W p l e R s m args below meth c H locs cells slots (vx_MQ below Qc XC args s mc ms free) g := by
  intro T hT X
  obtain ⟨t, a1, o, b1, b2, b3, b4⟩ := k T hT X
  exact ⟨t, a1, o, b1, b2, Or.inl ⟨b3, b4⟩⟩
/-- not caught here: it goes on to the caller -/
theorem vx_widen {g : JFrame} {q : Addr} {k n : Nat} (h1 : cells ≤ k) (h2 : slots ≤ n) (kk : vx_W p l e R s m args below meth c H locs k n Q g q) : vx_W p l e R s m args below meth c H locs cells slots Q g q := fun T hT X => kk T hT (stand_widen X h1 h2)
theorem vx_out {pc : Nat} {E : String} {ce : Cell} {q : Addr} {mc ms : Nat} (hout : ∀ x ∈ c.exceptionTable.toList, covers x pc = false) (hlocks : meth.locks = false) (hcell : H[q]? = some ce) (hv : ce.vm = .none) (hcl : s.vm.findClass E = some ce.cls)
    (hx : ∀ t : State, t.heap = H → s.vm.Alike t.vm → XC E s t) (hf : ∀ z ∈ locs, free z.base) (hc : cells ≤ mc) (hs : slots ≤ ms) :
    vx_W p l e R s m args below meth c H locs cells slots (vx_MQ below Qc XC args s mc ms free) (F0 m pc ls rest) q := by
  intro T hT X
  obtain ⟨st1, hrun, hend, hW, hsm⟩ := X.leaveThrown q (g := F0 m pc ls rest) rfl rfl rfl hout hlocks
  have hcell9 : (T.setFrames (.throwing q :: below)).heap[q]? = some ce := by
    show T.heap[q]? = some ce
    rw [hT]; exact hcell
  exact ⟨_, st1, .threw q, hrun, hend, Or.inr ⟨q, rfl, E, ce, locs, hx _ hT hW.alike, hcell9, hv, hcl, hW, hsm.mono hc hs, hf⟩⟩
theorem vx_frame {U : State} {k n : Nat} (h : s.sameButNew ({ U with vm := s.vm } : State) locs k n) : s.heap.size ≤ U.heap.size ∧ ∀ q : Nat, q < s.heap.size → (∀ z ∈ locs, z.base ≠ q) → U.heap[q]? = s.heap[q]? := by
  obtain ⟨-, h2, -, -, -, h6⟩ := h
  refine ⟨h2, fun q hq hz => ?_⟩
  obtain ⟨c9, e1, e2, e3, e4⟩ := h6 q _ (Array.getElem?_eq_getElem hq)
  have hs : c9.slots = (s.heap[q]).slots := Array.ext_getElem? fun i => e4 i fun hm => hz _ hm rfl
  have h9 : c9 = s.heap[q] := by
    rw [hs] at e2
    exact e2
  have e5 : U.heap[q]? = some c9 := e1
  rw [e5, h9, Array.getElem?_eq_getElem hq]
/-- the words of a throw but the four that speak of the heap -/
def vx_no (w : Cond) : Bool := decide (w ≠ .isRef (.static Bundle.tN "UNASSIGNED_STACK" Bundle.steD)) && decide (w ≠ .isRef (.static Bundle.tN "SUPPRESSED_SENTINEL" Bundle.listD)) && decide (w ≠ .laysStatic Bundle.tN "UNASSIGNED_STACK" Bundle.steD) && decide (w ≠ .laysStatic Bundle.tN "SUPPRESSED_SENTINEL" Bundle.listD)
def vx_at0 (own : String) (ic : Nat) (X : String) (names : List String) : List Cond := (Bundle.ownAtoms0 own ic X names).filter vx_no
def vx_atS (own : String) (ic : Nat) (X : String) (names : List String) : List Cond := (Bundle.ownAtoms own ic X names).filter vx_no
/-- a word that the tables alone decide, or a good one -/
def vx_ot (w : Cond) : Bool := w.onTables || goodWord w
theorem vx_ot_at {args a' : Array Value} {s U : State} {w : Cond} (hW : s.WarmedH U.vm) (hvm : s.vm = U.vm) (hg : vx_ot w = true) (h : w.before args s = true) : w.before a' U = true := by
  simp only [vx_ot, Bool.or_eq_true] at hg
  rcases hg with hg | hg
  · exact va_tabs hg hvm h
  · exact word_at hW (good_of_word hg) h
/-- a list's words: the good ones out of the method's own list, the others by premises of their own -/
theorem vx_hat {args : Array Value} {s : State} {L B : List Cond} (h1 : ∀ w ∈ L.filter goodWord, w.before args s = true) (h2 : ∀ w ∈ L.filter (fun w => !goodWord w), w ∈ B) (h3 : ∀ w ∈ B, w.before args s = true) : ∀ w ∈ L, w.before args s = true := by
  intro w hw
  by_cases g : goodWord w = true
  · exact h1 w (List.mem_filter.mpr ⟨hw, g⟩)
  · refine h3 w (h2 w (List.mem_filter.mpr ⟨hw, ?_⟩))
    show (!goodWord w) = true
    cases hgw : goodWord w
    · rfl
    · exact absurd hgw g
theorem vx_c {args : Array Value} {s : State} {w : Cond} {B : List Cond} (h : w.before args s = true) (t : ∀ w ∈ B, w.before args s = true) : ∀ w' ∈ w :: B, w'.before args s = true := fun w' h' => (List.mem_cons.mp h').elim (fun e => by rw [e]; exact h) (t w')
theorem vx_n {args : Array Value} {s : State} : ∀ w ∈ ([] : List Cond), w.before args s = true := fun _ h => nomatch h
theorem vx_own {args : Array Value} {s : State} {L : List Cond} (h1 : ∀ w ∈ L.filter vx_no, w.before args s = true)
    (hU : (Cond.isRef (.static Bundle.tN "UNASSIGNED_STACK" Bundle.steD)).before args s = true) (hN : (Cond.isRef (.static Bundle.tN "SUPPRESSED_SENTINEL" Bundle.listD)).before args s = true)
    (lU : (Cond.laysStatic Bundle.tN "UNASSIGNED_STACK" Bundle.steD).before args s = true) (lN : (Cond.laysStatic Bundle.tN "SUPPRESSED_SENTINEL" Bundle.listD).before args s = true) : ∀ w ∈ L, w.before args s = true := by
  intro w hw
  by_cases e1 : w = .isRef (.static Bundle.tN "UNASSIGNED_STACK" Bundle.steD)
  · rw [e1]; exact hU
  · by_cases e2 : w = .isRef (.static Bundle.tN "SUPPRESSED_SENTINEL" Bundle.listD)
    · rw [e2]; exact hN
    · by_cases e3 : w = .laysStatic Bundle.tN "UNASSIGNED_STACK" Bundle.steD
      · rw [e3]; exact lU
      · by_cases e4 : w = .laysStatic Bundle.tN "SUPPRESSED_SENTINEL" Bundle.listD
        · rw [e4]; exact lN
        · exact h1 w (List.mem_filter.mpr ⟨hw, by unfold vx_no; rw [decide_eq_true e1, decide_eq_true e2, decide_eq_true e3, decide_eq_true e4]; rfl⟩)
/-- where a static field lies, its class's statics cell in H -/
def vx_L (C n d : String) (A : Nat → Prop) (U : State) (H : Heap) : Prop := ∃ (c : ClassId) (k : Class) (i : Nat) (f : Field) (a : Nat) (cell : Cell), U.vm.findClass C = some c ∧ U.fieldFound? C n d = some (c, k, i, f) ∧ f.isStatic = true ∧ k.statics = some a ∧ H[a]? = some cell ∧ cell.vm.isStatics = true ∧ cell.cls = c ∧ f.slot < cell.slots.size ∧ k.staticTypes[f.slot]? = some f.type ∧ ¬ A a
theorem vx_L.moved {C n d : String} {A : Nat → Prop} {u U : State} {H : Heap} (hvm : u.vm.Alike U.vm) (h : vx_L C n d A u H) : vx_L C n d A U H := by
  obtain ⟨c, k, i, f, a, cell, h1, h2, h3, h4, h5, h6, h7, h8, h9, h10⟩ := h
  obtain ⟨k', hi', he⟩ := State.fieldFound?_setVm hvm h2
  exact ⟨c, k', i, f, a, cell, by rw [hvm.findClass]; exact h1, hi', h3, by rw [he]; exact h4, h5, h6, h7, h8, by rw [he]; exact h9, h10⟩
theorem vx_L.kept {C n d : String} {A : Nat → Prop} {U : State} {H H1 : Heap} (h : vx_L C n d A U H) (hq : ∀ a : Nat, a < H.size → ¬ A a → H1[a]? = H[a]?) : vx_L C n d A U H1 := by
  obtain ⟨c, k, i, f, a, cell, h1, h2, h3, h4, h5, h6, h7, h8, h9, h10⟩ := h
  exact ⟨c, k, i, f, a, cell, h1, h2, h3, h4, by rw [hq a (Array.getElem?_eq_some_iff.mp h5).1 h10]; exact h5, h6, h7, h8, h9, h10⟩
theorem vx_L.narrow {C n d : String} {A B : Nat → Prop} {U : State} {H : Heap} (h : vx_L C n d A U H) (hAB : ∀ q, B q → A q) : vx_L C n d B U H := by
  obtain ⟨c, k, i, f, a, cell, h1, h2, h3, h4, h5, h6, h7, h8, h9, h10⟩ := h
  exact ⟨c, k, i, f, a, cell, h1, h2, h3, h4, h5, h6, h7, h8, h9, fun z => h10 (hAB _ z)⟩
theorem vx_L.word {C n d : String} {A : Nat → Prop} {s : State} {args : Array Value} (h : vx_L C n d A s s.heap) : (Cond.laysStatic C n d).before args s = true := by
  obtain ⟨c, k, i, f, a, cell, h1, h2, h3, h4, h5, h6, h7, h8, h9, -⟩ := h
  show (Cond.laysStatic C n d).holds args s none s [] = true
  exact Cond.laysStatic_of h1 h2 h3 h4 h5 h6 h7 h8 h9
/-- .. and what it holds: null or some reference -/
def vx_Zq (C n d : String) (A : Nat → Prop) (U : State) (H : Heap) : Prop := va_Zq C n d A U H ∧ vx_L C n d A U H
theorem vx_Zq.moved {C n d : String} {A : Nat → Prop} {u U : State} {H : Heap} (hvm : u.vm.Alike U.vm) (h : vx_Zq C n d A u H) : vx_Zq C n d A U H := ⟨va_Zq.moved hvm h.1, vx_L.moved hvm h.2⟩
theorem vx_Zq.kept {C n d : String} {A : Nat → Prop} {U : State} {H H1 : Heap} (h : vx_Zq C n d A U H) (hq : ∀ a : Nat, a < H.size → ¬ A a → H1[a]? = H[a]?) : vx_Zq C n d A U H1 := ⟨va_Zq.kept h.1 hq, vx_L.kept h.2 hq⟩
theorem vx_Zq.narrow {C n d : String} {A B : Nat → Prop} {U : State} {H : Heap} (h : vx_Zq C n d A U H) (hAB : ∀ q, B q → A q) : vx_Zq C n d B U H := ⟨va_Zq.narrow h.1 hAB, vx_L.narrow h.2 hAB⟩
theorem vx_Zqof {args : Array Value} {s : State} {C n d : String} {A : Nat → Prop} (hl : (Cond.laysStatic C n d).before args s = true) (hini : (Cond.initialized C).before args s = true) (h : (Cond.isRef (.static C n d)).before args s = true) (hA : ∀ a : Nat, a < s.heap.size → ¬ A a) : vx_Zq C n d A s s.heap := by
  refine ⟨va_Zqof hl hini h hA, ?_⟩
  obtain ⟨c, k, i, f, a, cell, h1, h2, h3, h4, h5, h6, h7, h8, h9⟩ := Cond.laysStatic_spec hl
  exact ⟨c, k, i, f, a, cell, h1, h2, h3, h4, h5, h6, h7, h8, h9, hA a (Array.getElem?_eq_some_iff.mp h5).1⟩
theorem vx_isRef {C n d : String} {v : Value} {A : Nat → Prop} {s : State} {args : Array Value} (h : va_Z C n d v A s s.heap) (hv : v.isRef = true) : (Cond.isRef (.static C n d)).before args s = true := by
  obtain ⟨cf, kf, fi, f, a, cell, h1, h2, h3, h4, h5, h6, h7, -⟩ := h
  have he : (Term.static C n d).eval args s none [] s = some v := by
    simp [Term.eval, State.fieldNamed?, h1, h2, h4, h5, h6, h7]
  simp only [Cond.before, Cond.holds, Cond.value, he]
  cases v <;> simp_all [Value.isRef]
theorem vx_isRefq {C n d : String} {A : Nat → Prop} {s : State} {args : Array Value} (h : va_Zq C n d A s s.heap) : (Cond.isRef (.static C n d)).before args s = true := by
  rcases h with h | ⟨t, h⟩
  · exact vx_isRef h rfl
  · exact vx_isRef h rfl
/-- the same frame, seen from here: as if the method were called anew in this heap -/
theorem vx_rebase {T : State} (X : Stand p l e R s m args below meth c T locs cells slots) {R' : Room} (hf : R'.frames ≤ R.frames) (hl : R'.locals ≤ R.locals) (hc : cells + R'.cells ≤ R.cells) (hs : slots + R'.slots ≤ R.slots) :
    Stand p l e R' ((T.setVm s.vm).setFrames (.invoking m args :: below)) m args below meth c T [] 0 0 := by
  have htop : (T.setVm s.vm).topJava?.isSome := X.here.top
  have hF : ((T.setVm s.vm).setFrames (.invoking m args :: below)).frames = .invoking m args :: below := State.frames_setFrames _ (State.cur_lt_of_top htop)
  obtain ⟨g₀, hg0⟩ := Option.isSome_iff_exists.mp htop
  obtain ⟨r, hr⟩ := State.topJava?_eq_some.mp hg0
  have hl9 : e.platform.stackLimits (T.setVm s.vm).me = e.platform.stackLimits s.me := X.limits
  have hb9 : (T.setVm s.vm).me.stackBytes = s.me.stackBytes := X.bytes
  refine ⟨X.admits, X.cas, X.clock, hF, ?_, X.hears, X.method, X.code, X.here, X.tail, X.warmed, ?_, ?_, ?_⟩
  · have h := X.room
    have hU : ((T.setVm s.vm).setFrames (.invoking m args :: below)).localsInUse = s.localsInUse := by
      rw [State.localsInUse_invoking hF (meth := meth) (c := c) X.method X.code, State.localsInUse_invoking X.frames X.method X.code]
    simp only [State.hasRoom, Bool.and_eq_true, decide_eq_true_eq] at h ⊢
    obtain ⟨⟨⟨⟨h1, h2, h3, h4, h5, h6⟩, h7⟩, h8⟩, h9⟩ := h
    rw [X.frames, List.length_cons] at h2 h3
    have q1 := X.heapSize
    have q2 := X.used
    simp only [hF, hU, List.length_cons, State.stackLimits_setFrames, State.stackBytes_setFrames, hl9, hb9]
    refine ⟨⟨⟨⟨by omega, by omega, by omega, by omega, by omega, h6⟩, ?_⟩, ?_⟩, X.book⟩
    · show T.heap.size + R'.cells ≤ e.platform.maxCells
      omega
    · show T.slotsUsed + R'.slots ≤ e.platform.maxSlots
      omega
  · rw [State.stackLimits_setFrames]; rfl
  · rw [State.stackBytes_setFrames]; rfl
  · refine ⟨?_, Nat.le_refl _, Nat.le_refl _, ?_, ?_, fun a c9 h9 => ⟨c9, h9, rfl, rfl, fun _ _ => rfl⟩⟩
    · obtain ⟨t, ht, -⟩ := State.frames_cons hr
      show T.setVm s.vm = { ((T.setVm s.vm).setFrames (.invoking m args :: below)).setFrames (T.setVm s.vm).frames with heap := T.heap, slotsUsed := T.slotsUsed }
      rw [State.setFrames_setFrames, State.setFrames_self ht]
      rfl
    · show T.slotsUsed = T.slotsUsed + ((T.heap.toList.drop T.heap.size).map (·.slots.size)).sum
      rw [List.drop_eq_nil_of_le (Nat.le_of_eq Array.length_toList)]
      rfl
    · show ((T.heap.toList.drop T.heap.size).map (·.slots.size)).sum ≤ 0
      rw [List.drop_eq_nil_of_le (Nat.le_of_eq Array.length_toList)]
      exact Nat.le_refl _
/-- 'throw new E()': new; dup; invokespecial; athrow -/
theorem vx_throw0 {cc : ByteArray} {pc : Nat} (hexec : p.tables.exec = Jvm.exec) (hb : c.code = cc) (hl : l.stackTraces = false) {own cls : String} {names : List String} {ik ic mc ms : Nat} {A : Nat → Prop}
    (hown : s.vm.findClass own = some m.cls) (hcls : Bundle.fit cls = true) (hnames : ∀ n ∈ names, Bundle.fit n = true)
    (hk : (Cond.classLink own ik cls).before args s = true) (hini : (Cond.initialized cls).before args s = true) (hat : ∀ w ∈ vx_at0 own ic cls names, w.before args s = true)
    (hgood : ∀ w ∈ Cond.classLink own ik cls :: Cond.initialized cls :: vx_at0 own ic cls names, vx_ot w = true)
    (hU : vx_Zq Bundle.tN "UNASSIGNED_STACK" Bundle.steD A s s.heap) (hN : vx_Zq Bundle.tN "SUPPRESSED_SENTINEL" Bundle.listD A s s.heap) (hS : va_S A s.heap H locs) (hsize : ls.size = c.maxLocals)
    (d0 : decode cc pc = .ok (.new ik, 3)) (d3 : decode cc (pc + 3) = .ok (.dup, 1)) (d4 : decode cc (pc + 4) = .ok (.invokespecial ic, 3)) (d7 : decode cc (pc + 7) = .ok (.athrow, 1))
    (hout : ∀ x ∈ c.exceptionTable.toList, covers x (pc + 7) = false)
    (hRframes : names.length + 3 < R.frames) (hRlocals : (rest.map fun v => v.category).sum + (13 * (names.length + 1) + 42) ≤ R.locals) (hRcells : cells + 1 ≤ R.cells) (hRslots : slots + 6 ≤ R.slots) (hlocks : meth.locks = false)
    (hx : ∀ t : State, s.vm.Alike t.vm → H.size ≤ t.heap.size → (∀ q : Nat, q < H.size → t.heap[q]? = H[q]?) → XC cls s t)
    (hf : ∀ z ∈ locs, free z.base) (hc : cells + 1 ≤ mc) (hs : slots + 6 ≤ ms) :
    W p l e R s m args below meth c H locs cells slots (vx_MQ below Qc XC args s mc ms free) (F0 m pc ls rest) := by
  intro T hT X
  have htr : e.platform.stackTraces = false := (show e.platform.stackTraces = l.stackTraces by rw [X.admits.platform]).trans hl
  have Y := vx_rebase X (R' := { frames := R.frames, locals := R.locals, cells := 1, slots := 6 }) (Nat.le_refl _) (Nat.le_refl _) hRcells hRslots
  obtain ⟨s', hA⟩ : ∃ z, z = (T.setVm s.vm).setFrames (.invoking m args :: below) := ⟨_, rfl⟩
  rw [← hA] at Y
  have hvm : s'.vm = s.vm := by rw [hA]; rfl
  have hhp : s'.heap = H := by rw [hA]; exact hT
  have hW0 : s.WarmedH s'.vm := by rw [hvm]; exact State.WarmedH.refl s
  have hat' : ∀ w ∈ vx_at0 own ic cls names, w.before args s' = true := fun w hw => vx_ot_at hW0 hvm.symm (hgood w (List.mem_cons_of_mem _ (List.mem_cons_of_mem _ hw))) (hat w hw)
  have hk' : (Cond.classLink own ik cls).before args s' = true := vx_ot_at hW0 hvm.symm (hgood _ List.mem_cons_self) hk
  have hini' : (Cond.initialized cls).before args s' = true := vx_ot_at hW0 hvm.symm (hgood _ (List.mem_cons_of_mem _ List.mem_cons_self)) hini
  have hU' : vx_Zq Bundle.tN "UNASSIGNED_STACK" Bundle.steD A s' s'.heap := by rw [hhp]; exact vx_Zq.moved hW0.alike (hU.kept hS.2.1)
  have hN' : vx_Zq Bundle.tN "SUPPRESSED_SENTINEL" Bundle.listD A s' s'.heap := by rw [hhp]; exact vx_Zq.moved hW0.alike (hN.kept hS.2.1)
  have h : ∀ w ∈ Bundle.ownAtoms0 own ic cls names, w.before args s' = true := vx_own hat' (vx_isRefq hU'.1) (vx_isRefq hN'.1) hU'.2.word hN'.2.word
  have hown' : s'.vm.findClass own = some m.cls := by rw [hvm]; exact hown
  have hins : (Cond.instantiable cls 6).before args s' = true := h _ (by simp [Bundle.ownAtoms0])
  obtain ⟨vm₁, cX, kX, hfX, hkX, -, -, X₁, st1⟩ := Y.newCold hexec (own := own) (C := cls) (index := ik) (n := 6) hown' hk' hins hini'
    (g := F0 m pc ls rest) rfl (by rw [hb]; exact d0) (Nat.le_refl _) (Nat.le_refl _)
  generalize hT1 : (T.setVm vm₁).pushCell { cls := cX, slots := kX.instanceTypes.map defaultValue, vm := .none } = T1 at X₁ st1
  have hcat : (Value.ref T.heap.size).category = 1 := rfl
  have hcellA : T1.heap[T.heap.size]? = some (freshCell cX kX) := by rw [← hT1]; exact State.heap_pushCell_size _ _
  have d3' : decode c.code (pc + 3) = .ok (.dup, 1) := by rw [hb]; exact d3
  obtain ⟨U, hsteps, hrun, hend, hW, hsame, ce, hce, hO⟩ := X₁.ctorThrow0 hexec htr (own := own) (cls := cls) (names := names) (ic := ic) hown' hcls hnames h (fun x hx => nomatch hx) hfX hkX hcellA (by rw [hhp, hT]; exact Nat.le_refl _)
    (g := { method := m, pc := pc + 4, locals := ls, stack := .ref T.heap.size :: .ref T.heap.size :: rest, locked := none }) rfl hsize rfl rfl (rest := rest) rfl
    (by rw [hb]; exact d4) (by rw [hb]; exact d7) hout hRframes (by simp only [List.map_cons, List.sum_cons, hcat]; omega) hlocks
  obtain ⟨f1, f2⟩ := vx_frame hsame
  rw [hhp] at f1 f2
  have hWs : s.WarmedH U.vm := State.WarmedH.trans hW0 hW
  have hcl : s.vm.findClass cls = some ce.cls := by
    have h9 := hO.cls
    rw [hvm] at h9
    exact h9
  have hall : s.sameButNew ({ U with vm := s.vm } : State) locs mc ms := by
    subst hA
    obtain ⟨e1, e2⟩ := hsame
    rw [State.setFrames_setFrames] at e1
    have h2 : (T.setVm s.vm).sameButNew ({ U with vm := s.vm } : State) [] (0 + 1) (0 + 6) := ⟨e1, e2⟩
    have h3 := X.same.trans h2
    rw [List.append_nil] at h3
    exact h3.mono hc hs
  refine ⟨U, ?_, .threw T.heap.size, hrun, hend, Or.inr ⟨T.heap.size, rfl, cls, ce, locs, hx U hWs.alike f1 (fun q hq => f2 q hq (fun z hz => nomatch hz)), hce, hO.vm, hcl, hWs, hall, hf⟩⟩
  refine st1 _ ?_
  show Steps p.tables e below (T1.setTop { method := m, pc := pc + 3, locals := ls, stack := .ref T.heap.size :: rest, locked := none }) _
  jvm_step X₁.here [X₁.here.top, hexec, d3', Value.category]
  exact hsteps
/-- 'throw new E("text")': new; dup; ldc; invokespecial; athrow -/
theorem vx_throwS {cc : ByteArray} {pc : Nat} (hexec : p.tables.exec = Jvm.exec) (hb : c.code = cc) (hl : l.stackTraces = false) {own cls text : String} {names : List String} {ik is ic mc ms sa : Nat} {A : Nat → Prop}
    (hown : s.vm.findClass own = some m.cls) (hcls : Bundle.fit cls = true) (hnames : ∀ n ∈ names, Bundle.fit n = true)
    (hk : (Cond.classLink own ik cls).before args s = true) (hini : (Cond.initialized cls).before args s = true) (hstr : vk_R own is text sa s) (hat : ∀ w ∈ vx_atS own ic cls names, w.before args s = true)
    (hgood : ∀ w ∈ Cond.classLink own ik cls :: Cond.initialized cls :: vx_atS own ic cls names, vx_ot w = true)
    (hU : vx_Zq Bundle.tN "UNASSIGNED_STACK" Bundle.steD A s s.heap) (hN : vx_Zq Bundle.tN "SUPPRESSED_SENTINEL" Bundle.listD A s s.heap) (hS : va_S A s.heap H locs) (hsize : ls.size = c.maxLocals)
    (d0 : decode cc pc = .ok (.new ik, 3)) (d3 : decode cc (pc + 3) = .ok (.dup, 1)) (d4 : decode cc (pc + 4) = .ok (.ldc is, 2)) (d6 : decode cc (pc + 6) = .ok (.invokespecial ic, 3)) (d9 : decode cc (pc + 9) = .ok (.athrow, 1))
    (hout : ∀ x ∈ c.exceptionTable.toList, covers x (pc + 9) = false)
    (hRframes : names.length + 3 < R.frames) (hRlocals : (rest.map fun v => v.category).sum + (13 * (names.length + 1) + 43) ≤ R.locals) (hRcells : cells + 1 ≤ R.cells) (hRslots : slots + 6 ≤ R.slots) (hlocks : meth.locks = false)
    (hx : ∀ t : State, s.vm.Alike t.vm → H.size ≤ t.heap.size → (∀ q : Nat, q < H.size → t.heap[q]? = H[q]?) → XC cls s t)
    (hf : ∀ z ∈ locs, free z.base) (hc : cells + 1 ≤ mc) (hs : slots + 6 ≤ ms) :
    W p l e R s m args below meth c H locs cells slots (vx_MQ below Qc XC args s mc ms free) (F0 m pc ls rest) := by
  intro T hT X
  have htr : e.platform.stackTraces = false := (show e.platform.stackTraces = l.stackTraces by rw [X.admits.platform]).trans hl
  have Y := vx_rebase X (R' := { frames := R.frames, locals := R.locals, cells := 1, slots := 6 }) (Nat.le_refl _) (Nat.le_refl _) hRcells hRslots
  obtain ⟨s', hA⟩ : ∃ z, z = (T.setVm s.vm).setFrames (.invoking m args :: below) := ⟨_, rfl⟩
  rw [← hA] at Y
  have hvm : s'.vm = s.vm := by rw [hA]; rfl
  have hhp : s'.heap = H := by rw [hA]; exact hT
  have hW0 : s.WarmedH s'.vm := by rw [hvm]; exact State.WarmedH.refl s
  have hat' : ∀ w ∈ vx_atS own ic cls names, w.before args s' = true := fun w hw => vx_ot_at hW0 hvm.symm (hgood w (List.mem_cons_of_mem _ (List.mem_cons_of_mem _ hw))) (hat w hw)
  have hk' : (Cond.classLink own ik cls).before args s' = true := vx_ot_at hW0 hvm.symm (hgood _ List.mem_cons_self) hk
  have hini' : (Cond.initialized cls).before args s' = true := vx_ot_at hW0 hvm.symm (hgood _ (List.mem_cons_of_mem _ List.mem_cons_self)) hini
  have hU' : vx_Zq Bundle.tN "UNASSIGNED_STACK" Bundle.steD A s' s'.heap := by rw [hhp]; exact vx_Zq.moved hW0.alike (hU.kept hS.2.1)
  have hN' : vx_Zq Bundle.tN "SUPPRESSED_SENTINEL" Bundle.listD A s' s'.heap := by rw [hhp]; exact vx_Zq.moved hW0.alike (hN.kept hS.2.1)
  have h : ∀ w ∈ Bundle.ownAtoms own ic cls names, w.before args s' = true := vx_own hat' (vx_isRefq hU'.1) (vx_isRefq hN'.1) hU'.2.word hN'.2.word
  have hown' : s'.vm.findClass own = some m.cls := by rw [hvm]; exact hown
  have hins : (Cond.instantiable cls 6).before args s' = true := h _ (by simp [Bundle.ownAtoms])
  obtain ⟨vm₁, cX, kX, hfX, hkX, -, -, X₁, st1⟩ := Y.newCold hexec (own := own) (C := cls) (index := ik) (n := 6) hown' hk' hins hini'
    (g := F0 m pc ls rest) rfl (by rw [hb]; exact d0) (Nat.le_refl _) (Nat.le_refl _)
  generalize hT1 : (T.setVm vm₁).pushCell { cls := cX, slots := kX.instanceTypes.map defaultValue, vm := .none } = T1 at X₁ st1
  have hcat : (Value.ref T.heap.size).category = 1 := rfl
  have hcellA : T1.heap[T.heap.size]? = some (freshCell cX kX) := by rw [← hT1]; exact State.heap_pushCell_size _ _
  have d3' : decode c.code (pc + 3) = .ok (.dup, 1) := by rw [hb]; exact d3
  have d4' : decode c.code (pc + 4) = .ok (.ldc is, 2) := by rw [hb]; exact d4
  have hstr' : vk_R own is text sa s' := vk_R.warm hW0 hstr
  obtain ⟨U, hsteps, hrun, hend, hW, hsame, ce, hce, hO⟩ := X₁.ctorThrowS hexec htr (own := own) (cls := cls) (names := names) (ic := ic) hown' hcls hnames h (fun x hx => nomatch hx) hfX hkX hcellA (by rw [hhp, hT]; exact Nat.le_refl _) (msg := .ref sa) rfl
    (g := { method := m, pc := pc + 6, locals := ls, stack := .ref sa :: .ref T.heap.size :: .ref T.heap.size :: rest, locked := none }) rfl hsize rfl rfl (rest := rest) rfl
    (by rw [hb]; exact d6) (by rw [hb]; exact d9) hout hRframes (by simp only [List.map_cons, List.sum_cons, hcat]; omega) hlocks
  obtain ⟨f1, f2⟩ := vx_frame hsame
  rw [hhp] at f1 f2
  have hWs : s.WarmedH U.vm := State.WarmedH.trans hW0 hW
  have hcl : s.vm.findClass cls = some ce.cls := by
    have h9 := hO.cls
    rw [hvm] at h9
    exact h9
  have hall : s.sameButNew ({ U with vm := s.vm } : State) locs mc ms := by
    subst hA
    obtain ⟨e1, e2⟩ := hsame
    rw [State.setFrames_setFrames] at e1
    have h2 : (T.setVm s.vm).sameButNew ({ U with vm := s.vm } : State) [] (0 + 1) (0 + 6) := ⟨e1, e2⟩
    have h3 := X.same.trans h2
    rw [List.append_nil] at h3
    exact h3.mono hc hs
  refine ⟨U, ?_, .threw T.heap.size, hrun, hend, Or.inr ⟨T.heap.size, rfl, cls, ce, locs, hx U hWs.alike f1 (fun q hq => f2 q hq (fun z hz => nomatch hz)), hce, hO.vm, hcl, hWs, hall, hf⟩⟩
  refine st1 _ ?_
  show Steps p.tables e below (T1.setTop { method := m, pc := pc + 3, locals := ls, stack := .ref T.heap.size :: rest, locked := none }) _
  jvm_step X₁.here [X₁.here.top, hexec, d3', Value.category]
  exact X₁.ldcString hexec (own := own) (text := text) (index := is) (a := sa) hown' hstr'.1 hstr'.2
    (g := { method := m, pc := pc + 4, locals := ls, stack := .ref T.heap.size :: .ref T.heap.size :: rest, locked := none }) rfl d4' _ hsteps
/-- 'throw new E("text")', the text by a wide index -/
theorem vx_throwSW {cc : ByteArray} {pc : Nat} (hexec : p.tables.exec = Jvm.exec) (hb : c.code = cc) (hl : l.stackTraces = false) {own cls text : String} {names : List String} {ik is ic mc ms sa : Nat} {A : Nat → Prop}
    (hown : s.vm.findClass own = some m.cls) (hcls : Bundle.fit cls = true) (hnames : ∀ n ∈ names, Bundle.fit n = true)
    (hk : (Cond.classLink own ik cls).before args s = true) (hini : (Cond.initialized cls).before args s = true) (hstr : vk_R own is text sa s) (hat : ∀ w ∈ vx_atS own ic cls names, w.before args s = true)
    (hgood : ∀ w ∈ Cond.classLink own ik cls :: Cond.initialized cls :: vx_atS own ic cls names, vx_ot w = true)
    (hU : vx_Zq Bundle.tN "UNASSIGNED_STACK" Bundle.steD A s s.heap) (hN : vx_Zq Bundle.tN "SUPPRESSED_SENTINEL" Bundle.listD A s s.heap) (hS : va_S A s.heap H locs) (hsize : ls.size = c.maxLocals)
    (d0 : decode cc pc = .ok (.new ik, 3)) (d3 : decode cc (pc + 3) = .ok (.dup, 1)) (d4 : decode cc (pc + 4) = .ok (.ldc_w is, 3)) (d7 : decode cc (pc + 7) = .ok (.invokespecial ic, 3)) (d10 : decode cc (pc + 10) = .ok (.athrow, 1))
    (hout : ∀ x ∈ c.exceptionTable.toList, covers x (pc + 10) = false)
    (hRframes : names.length + 3 < R.frames) (hRlocals : (rest.map fun v => v.category).sum + (13 * (names.length + 1) + 43) ≤ R.locals) (hRcells : cells + 1 ≤ R.cells) (hRslots : slots + 6 ≤ R.slots) (hlocks : meth.locks = false)
    (hx : ∀ t : State, s.vm.Alike t.vm → H.size ≤ t.heap.size → (∀ q : Nat, q < H.size → t.heap[q]? = H[q]?) → XC cls s t)
    (hf : ∀ z ∈ locs, free z.base) (hc : cells + 1 ≤ mc) (hs : slots + 6 ≤ ms) :
    W p l e R s m args below meth c H locs cells slots (vx_MQ below Qc XC args s mc ms free) (F0 m pc ls rest) := by
  intro T hT X
  have htr : e.platform.stackTraces = false := (show e.platform.stackTraces = l.stackTraces by rw [X.admits.platform]).trans hl
  have Y := vx_rebase X (R' := { frames := R.frames, locals := R.locals, cells := 1, slots := 6 }) (Nat.le_refl _) (Nat.le_refl _) hRcells hRslots
  obtain ⟨s', hA⟩ : ∃ z, z = (T.setVm s.vm).setFrames (.invoking m args :: below) := ⟨_, rfl⟩
  rw [← hA] at Y
  have hvm : s'.vm = s.vm := by rw [hA]; rfl
  have hhp : s'.heap = H := by rw [hA]; exact hT
  have hW0 : s.WarmedH s'.vm := by rw [hvm]; exact State.WarmedH.refl s
  have hat' : ∀ w ∈ vx_atS own ic cls names, w.before args s' = true := fun w hw => vx_ot_at hW0 hvm.symm (hgood w (List.mem_cons_of_mem _ (List.mem_cons_of_mem _ hw))) (hat w hw)
  have hk' : (Cond.classLink own ik cls).before args s' = true := vx_ot_at hW0 hvm.symm (hgood _ List.mem_cons_self) hk
  have hini' : (Cond.initialized cls).before args s' = true := vx_ot_at hW0 hvm.symm (hgood _ (List.mem_cons_of_mem _ List.mem_cons_self)) hini
  have hU' : vx_Zq Bundle.tN "UNASSIGNED_STACK" Bundle.steD A s' s'.heap := by rw [hhp]; exact vx_Zq.moved hW0.alike (hU.kept hS.2.1)
  have hN' : vx_Zq Bundle.tN "SUPPRESSED_SENTINEL" Bundle.listD A s' s'.heap := by rw [hhp]; exact vx_Zq.moved hW0.alike (hN.kept hS.2.1)
  have h : ∀ w ∈ Bundle.ownAtoms own ic cls names, w.before args s' = true := vx_own hat' (vx_isRefq hU'.1) (vx_isRefq hN'.1) hU'.2.word hN'.2.word
  have hown' : s'.vm.findClass own = some m.cls := by rw [hvm]; exact hown
  have hins : (Cond.instantiable cls 6).before args s' = true := h _ (by simp [Bundle.ownAtoms])
  obtain ⟨vm₁, cX, kX, hfX, hkX, -, -, X₁, st1⟩ := Y.newCold hexec (own := own) (C := cls) (index := ik) (n := 6) hown' hk' hins hini'
    (g := F0 m pc ls rest) rfl (by rw [hb]; exact d0) (Nat.le_refl _) (Nat.le_refl _)
  generalize hT1 : (T.setVm vm₁).pushCell { cls := cX, slots := kX.instanceTypes.map defaultValue, vm := .none } = T1 at X₁ st1
  have hcat : (Value.ref T.heap.size).category = 1 := rfl
  have hcellA : T1.heap[T.heap.size]? = some (freshCell cX kX) := by rw [← hT1]; exact State.heap_pushCell_size _ _
  have d3' : decode c.code (pc + 3) = .ok (.dup, 1) := by rw [hb]; exact d3
  have d4' : decode c.code (pc + 4) = .ok (.ldc_w is, 3) := by rw [hb]; exact d4
  have hstr' : vk_R own is text sa s' := vk_R.warm hW0 hstr
  obtain ⟨U, hsteps, hrun, hend, hW, hsame, ce, hce, hO⟩ := X₁.ctorThrowS hexec htr (own := own) (cls := cls) (names := names) (ic := ic) hown' hcls hnames h (fun x hx => nomatch hx) hfX hkX hcellA (by rw [hhp, hT]; exact Nat.le_refl _) (msg := .ref sa) rfl
    (g := { method := m, pc := pc + 7, locals := ls, stack := .ref sa :: .ref T.heap.size :: .ref T.heap.size :: rest, locked := none }) rfl hsize rfl rfl (rest := rest) rfl
    (by rw [hb]; exact d7) (by rw [hb]; exact d10) hout hRframes (by simp only [List.map_cons, List.sum_cons, hcat]; omega) hlocks
  obtain ⟨f1, f2⟩ := vx_frame hsame
  rw [hhp] at f1 f2
  have hWs : s.WarmedH U.vm := State.WarmedH.trans hW0 hW
  have hcl : s.vm.findClass cls = some ce.cls := by
    have h9 := hO.cls
    rw [hvm] at h9
    exact h9
  have hall : s.sameButNew ({ U with vm := s.vm } : State) locs mc ms := by
    subst hA
    obtain ⟨e1, e2⟩ := hsame
    rw [State.setFrames_setFrames] at e1
    have h2 : (T.setVm s.vm).sameButNew ({ U with vm := s.vm } : State) [] (0 + 1) (0 + 6) := ⟨e1, e2⟩
    have h3 := X.same.trans h2
    rw [List.append_nil] at h3
    exact h3.mono hc hs
  refine ⟨U, ?_, .threw T.heap.size, hrun, hend, Or.inr ⟨T.heap.size, rfl, cls, ce, locs, hx U hWs.alike f1 (fun q hq => f2 q hq (fun z hz => nomatch hz)), hce, hO.vm, hcl, hWs, hall, hf⟩⟩
  refine st1 _ ?_
  show Steps p.tables e below (T1.setTop { method := m, pc := pc + 3, locals := ls, stack := .ref T.heap.size :: rest, locked := none }) _
  jvm_step X₁.here [X₁.here.top, hexec, d3', Value.category]
  exact X₁.ldcStringW hexec (own := own) (text := text) (index := is) (a := sa) hown' hstr'.1 hstr'.2
    (g := { method := m, pc := pc + 4, locals := ls, stack := .ref T.heap.size :: .ref T.heap.size :: rest, locked := none }) rfl d4' _ hsteps
end Ends
section Bodies
variable {l : Launch}
theorem vx_ofW {y : MethodName} {ws ws' : List Cond} {rm : Room} {Pc : Array Value → State → Prop} {Qc : Array Value → State → Outcome → State → Prop} {XC : String → State → State → Prop} {mc ms : Nat} {free : Addr → Prop} {cc : ByteArray} {maxL : Nat} {ret : Option FieldType}
    (hy : plainName y.cls = true) (hw : ws = Cond.code y cc maxL ret :: ws')
    (body : ∀ p e s m args below meth c s₁, BodyLoose p l y (headSpec ws rm) cc maxL ret e s m args below meth c s₁ → c.maxLocals = maxL → (∀ x ∈ c.exceptionTable.toList, False) → Pc args s →
      W p l e (headSpec ws rm).room s m args below meth c s.heap [] 0 0 (vx_MQ below Qc XC args s mc ms free) (entryFrame m args maxL)) : vx_Met l y ws rm Pc Qc XC mc ms free := by
  refine MetFree.of_bodyS (code := cc) (maxLocals := maxL) (ret := ret) hy ?_ ?_
  · intro args s m h hn
    obtain ⟨meth, c, h1, h2, h3, h4, h5, h6, -, -⟩ := Cond.code_spec hn (atoms_spec (ws := ws) h _ (by rw [hw]; exact List.mem_cons_self))
    exact ⟨meth, c, h1, h2, h3, h4, h5, h6⟩
  · intro p e s m args below meth c s₁ B hml hP _
    have hh0 : s₁.heap = s.heap := by rw [B.state]; rfl
    have ht : ∀ x ∈ c.exceptionTable.toList, False := by
      obtain ⟨meth9, c9, h1, h2, -, -, -, -, h7, -⟩ := Cond.code_spec B.named (atoms_spec (ws := ws) B.pre _ (by rw [hw]; exact List.mem_cons_self))
      cases Option.some.inj (h1.symm.trans B.method)
      cases Option.some.inj (h2.symm.trans (Stand.of_body B).code)
      intro x hx
      rw [Array.isEmpty_iff.mp h7] at hx
      cases hx
    obtain ⟨t, a1, o, b1, b2, b3⟩ := body p e s m args below meth c s₁ B hml ht hP s₁ hh0 (Stand.of_body B)
    exact ⟨t, o, a1, b1, b2, b3⟩
/-- the table of a body with handlers -/
theorem vx_table {p : Program} {x y : MethodName} {S : Spec} {cc bytes : ByteArray} {maxL maxL' : Nat} {ret ret' : Option FieldType} {e : Env} {s s₁ : State} {m : MethodId} {args : Array Value} {below : List Frame} {meth : Method} {c : Code} {hh : List (Nat × Nat × Nat × Nat)}
    (B : BodyLoose p l y S cc maxL ret e s m args below meth c s₁) (h : (Cond.codeWith y bytes maxL' ret' hh).before args s = true) : c.exceptionTable.toList = tableOf hh := by
  obtain ⟨m9, meth9, c9, hn9, h1, h2, -, -, h6, -⟩ := Cond.codeWith_spec h
  cases Option.some.inj (hn9.symm.trans B.named)
  cases Option.some.inj (h1.symm.trans B.method)
  cases Option.some.inj (h2.symm.trans (Stand.of_body B).code)
  rw [← h6, table_eq]
end Bodies
end VXA
/-! ===== END ===== -/
/-! ===== BEGIN a static call of a method with an exception table ===== -/
section VXS
variable {p : Program} {l : Launch} {e : Env} {R : Room} {s : State} {m : MethodId} {args : Array Value} {below : List Frame} {meth : Method} {c : Code} {T : State} {H : Heap} {locs : List Loc} {cells slots : Nat}
abbrev vx_CSW (R : Room) (s : State) (args : Array Value) (own : String) (index : Nat) (y : MethodName) (bytes : ByteArray) (maxL : Nat) (ret : Option FieldType) (hh : List (Nat × Nat × Nat × Nat)) (ws : List Cond) (rm : Room) (mc ms n : Nat) : Prop :=
  (rm.cells = mc ∧ rm.slots = ms ∧ rm.frames + 1 ≤ R.frames ∧ 8 + (maxL + 11) + rm.locals ≤ R.locals ∧ (∀ w ∈ ws, ∀ (a' : Array Value) (U : State), s.WarmedH U.vm → w.before a' U = true) ∧ Cond.codeWith y bytes maxL ret hh ∈ ws) ∧
  (Cond.codeWith y bytes maxL ret hh).before args s = true ∧ (Cond.initialized y.cls).before args s = true ∧ (y.cls ≠ "java/lang/invoke/MethodHandle" ∧ y.cls ≠ "java/lang/invoke/VarHandle") ∧
  (∀ sig, parseMethodDescriptor y.desc = some sig → n = sig.parameters.length) ∧ (Cond.methodLink own index y).before args s = true ∧ (Cond.static y).before args s = true
theorem vx_cwSW {own : String} {index maxL mc ms : Nat} {y : MethodName} {bytes : ByteArray} {ret : Option FieldType} {hh : List (Nat × Nat × Nat × Nat)} {Ts ws ws' : List Cond} {rm : Room} (n : Nat) (ht : ∀ w ∈ Ts, w.before args s = true) (hT : GoodIn Ts (va_wsS own index y ws)) (hw : ws = Cond.codeWith y bytes maxL ret hh :: ws') (hrc : rm.cells = mc) (hrs : rm.slots = ms)
    (hd : y.cls ≠ "java/lang/invoke/MethodHandle" ∧ y.cls ≠ "java/lang/invoke/VarHandle" ∧ (parseMethodDescriptor y.desc).map (fun d => d.parameters.length) = some n) (hR : rm.frames + 1 ≤ R.frames ∧ 8 + (maxL + 11) + rm.locals ≤ R.locals) :
    vx_CSW R s args own index y bytes maxL ret hh ws rm mc ms n := by
  have ok : ∀ w ∈ va_wsS own index y ws, w.before args s = true := fun w h => ht w (hT w h).1
  have hG : GoodIn Ts ws := fun w h => hT w (by unfold va_wsS; exact List.mem_append_right _ h)
  have hc : Cond.codeWith y bytes maxL ret hh ∈ ws := by rw [hw]; exact List.mem_cons_self
  refine ⟨⟨hrc, hrs, hR.1, hR.2, pay_in ht hG, hc⟩, ht _ (hG _ hc).1, ok _ (by simp [va_wsS]), ⟨hd.1, hd.2.1⟩, fun sig h => ?_, ok _ (by simp [va_wsS]), ok _ (by simp [va_wsS])⟩
  have h2 := hd.2.2
  rw [h] at h2
  exact (Option.some.inj h2).symm
theorem vx_callSW (X : Stand p l e R s m args below meth c T locs cells slots) (hexec : p.tables.exec = Jvm.exec) {own : String} {index : Nat} {y : MethodName} {bytes : ByteArray} {maxL : Nat} {ret : Option FieldType} {hh : List (Nat × Nat × Nat × Nat)}
    (hown : s.vm.findClass own = some m.cls) (hlink : (Cond.methodLink own index y).before args s = true) (hstat : (Cond.static y).before args s = true) (hinit : (Cond.initialized y.cls).before args s = true)
    (hcode : (Cond.codeWith y bytes maxL ret hh).before args s = true) (hy : y.cls ≠ "java/lang/invoke/MethodHandle" ∧ y.cls ≠ "java/lang/invoke/VarHandle")
    {W9 : Nat} {Pre : Pt → Array Value → Prop} {Post : Pt → Array Value → Option Value → Pt → Prop} (hK : Back l R p e below s args y 3 W9 Pre Post)
    {g : JFrame} (hg : g.method = m) (hsize : g.locals.size = c.maxLocals) {argsL rest : List Value} (hlen : ∀ sig, parseMethodDescriptor y.desc = some sig → argsL.length = sig.parameters.length)
    (hstack : g.stack = argsL.reverse ++ rest) (hW : 2 * g.monitorRoom + (rest.map fun v => v.category).sum ≤ W9) (hdg : decode c.code g.pc = .ok (.invokestatic index, 3))
    (hpre : ∀ vm₁, s.WarmedH vm₁ → Pre ⟨T.setVm vm₁, locs, cells, slots⟩ argsL.toArray) :
    ∃ (v : Option Value) (vm₁ : Vm) (B : Pt), s.WarmedH vm₁ ∧ Stand p l e R s m args below meth c B.U B.locs B.cells B.slots ∧ Post ⟨T.setVm vm₁, locs, cells, slots⟩ argsL.toArray v B ∧
      ∀ target, Steps p.tables e below (B.U.setTop { g with pc := g.pc + 3, stack := v.toList ++ rest }) target → Steps p.tables e below (T.setTop g) target := by
  obtain ⟨mk, methM, cM, hnamed, hmethM, -, -, -, -, -, -, hsigM⟩ := Cond.codeWith_spec hcode
  have hstatic : methM.isStatic = true := Cond.static_spec hnamed hmethM hstat
  obtain ⟨kP, hkP, -⟩ := className_of_methodNamed hnamed
  have hinitP : kP.init = .initialized := Cond.initialized_spec (findClass_of_methodNamed hnamed) hkP hinit
  obtain ⟨vm₁, X₁, hstep₁⟩ := X.invokestatic hexec hown hlink hnamed hmethM hstatic hkP hinitP hy (g := g) hg (argsL := argsL) (rest := rest) (hlen _ hsigM) hstack hdg
  obtain ⟨v, B, X', hpost, hsteps⟩ := hK m meth c ⟨T.setVm vm₁, locs, cells, slots⟩ { g with stack := rest } (.invokestatic index) mk argsL.toArray X₁ hg hsize hdg hW (X₁.named hnamed) (hpre vm₁ X₁.warmed)
  exact ⟨v, vm₁, B, X₁.warmed, X', hpost, fun target h => hstep₁ _ fun acts => by rw [doInvoke_state]; exact hsteps.trans h⟩
theorem vx_runSW {y : MethodName} {bytes cc : ByteArray} {maxL nL mc ms n index : Nat} {ret : Option FieldType} {hh : List (Nat × Nat × Nat × Nat)} {ws : List Cond} {rm : Room} {Pc : Array Value → State → Prop} {Qc : Array Value → State → Outcome → State → Prop} {free : Addr → Prop} {Ts : List Cond} {own : String} {As rest : List Value} {g : JFrame}
    (S : CallFix p m c cc nL s args Ts own) (hM : Met l y ws rm Pc Qc mc ms free) (cw : vx_CSW R s args own index y bytes maxL ret hh ws rm mc ms n) (hp : PreS s H Pc As)
    (hg : g.method = m) (hn : As.length = n) (hsize : g.locals.size = nL) (hstack : g.stack = As.reverse ++ rest) (hW : 2 * g.monitorRoom + (rest.map fun v => v.category).sum ≤ 8) (hdg : decode cc g.pc = .ok (.invokestatic index, 3)) (hf : cells + mc ≤ R.cells ∧ slots + ms ≤ R.slots) :
    va_Run p l e R s m args below meth c H locs cells slots mc ms g rest (Qc As.toArray) (free) := by
  obtain ⟨⟨hrc, hrs, hfr, hlo, hws, hcw⟩, hcode, hini, hy, hlen, hl, hstt⟩ := cw
  have hK : Back l R p e below s args y 3 8 (PreOf R mc ms Pc) (PostOf Qc mc ms free) := va_backW (hh := hh) (bytes := bytes) (maxL := maxL) (ret := ret) hM hp.1 hrc hrs hfr hlo hws hcw (fun a' U hW => word_at hW (Or.inl (by first | rfl | simp [Cond.onTables, Cond.keeps, Cond.steady])) hini)
  obtain ⟨hx, hb, hml, ho, -⟩ := S
  intro T hT X
  obtain ⟨v, vm₁, ⟨U', l2, c2, s2⟩, hW₁, X', ⟨g', mk, t, L, e1, e2, hq, h1, hL, h2, h3⟩, st⟩ := vx_callSW X hx (hh := hh) (bytes := bytes) (maxL := maxL) (ret := ret) ho hl hstt hini hcode hy hK hg (hsize.trans hml.symm) (argsL := As) (rest := rest) (fun sig h => hn.trans (hlen sig h)) hstack hW (by rw [hb]; exact hdg)
    (fun vm₁ hW₁ => ⟨hf.1, hf.2, hp.2 (T.setVm vm₁) hT hW₁⟩)
  dsimp only [Pt.U, Pt.locs, Pt.cells, Pt.slots] at X' e1 e2 h1 h2 h3 st
  subst h1; subst h2; subst h3
  exact ⟨v, (T.setVm vm₁).calling g' mk As.toArray, t, U', L, hT, X', hL, e1, e2, hq, st⟩
/-- not caught here, past rows that name other classes: it goes on to the caller -/
theorem vx_outP {p : Program} {l : Launch} {e : Env} {R : Room} {s : State} {m : MethodId} {args : Array Value} {below : List Frame} {meth : Method} {c : Code} {H : Heap} {locs : List Loc} {cells slots : Nat} {free : Addr → Prop} {ls : Array Slot} {rest : List Value} {Qc : Array Value → State → Outcome → State → Prop} {XC : String → State → State → Prop}
    {pc : Nat} {own E : String} {ce : Cell} {q : Addr} {mc ms : Nat} (hown : s.vm.findClass own = some m.cls) (hlocks : meth.locks = false)
    (hpass : ∀ z ∈ c.exceptionTable.toList, covers z pc = false ∨ (z.catchType ≠ 0 ∧ ∃ nm : String, (Cond.classLink own z.catchType nm).before args s = true ∧ va_Nc E nm s)) (hcell : H[q]? = some ce) (hv : ce.vm = .none) (hcl : s.vm.findClass E = some ce.cls)
    (hx : ∀ t : State, t.heap = H → s.vm.Alike t.vm → XC E s t) (hf : ∀ z ∈ locs, free z.base) (hc : cells ≤ mc) (hs : slots ≤ ms) :
    vx_W p l e R s m args below meth c H locs cells slots (vx_MQ below Qc XC args s mc ms free) (F0 m pc ls rest) q := by
  intro T hT X
  have hpl : e.platform.magicAccessors = ({} : Platform).magicAccessors := by rw [X.admits.platform]
  obtain ⟨vm', hW', X', st⟩ := X.outThrough hlocks q (g := F0 m pc ls rest) rfl rfl rfl (cell := ce) (by rw [hT]; exact hcell) (by rw [hv]; rfl)
    (by obtain ⟨k9, h9, -⟩ := Vm.findClass_spec hcl; exact ⟨k9, h9⟩) (fun z hz => by
      rcases hpass z hz with h | ⟨hz0, nm, hl1, hn1⟩
      · exact Or.inl h
      · obtain ⟨c6, hc6, hcl6⟩ := Cond.classLink_spec hown hl1 e.platform hpl
        obtain ⟨a8, b8, h1, h2, h3⟩ := hn1
        cases Option.some.inj (h1.symm.trans hcl)
        cases Option.some.inj (h2.symm.trans hc6)
        exact Or.inr ⟨hz0, _, hcl6, h3⟩)
  obtain ⟨g₀, hfr⟩ := X'.frames_eq
  have hcell9 : ((T.setVm vm').setFrames (.throwing q :: below)).heap[q]? = some ce := by
    show T.heap[q]? = some ce
    rw [hT]; exact hcell
  have hend : Ended ((T.setVm vm').setFrames (.throwing q :: below)) below (.threw q) := State.frames_setFrames _ (State.cur_lt_of_frames hfr)
  refine ⟨(T.setVm vm').setFrames (.throwing q :: below), ?_, .threw q, X'.here.running, hend, Or.inr ⟨q, rfl, E, ce, locs, hx _ hT (X'.ends _).1.alike, hcell9, hv, hcl, (X'.ends _).1, (X'.ends _).2.mono hc hs, hf⟩⟩
  rw [X.pushThrowing_eq]
  exact st
/-- a thing of a world lies in the heap -/
theorem vx_lt {D : va_G} {cl : List vw_C} {ws : va_W} {H1 : Heap} (h : va_P D cl ws H1) {k : Nat} {q : Nat × va_E} (hk : ws[k]? = some q) : q.1 < H1.size := (h k q hk).lt
end VXS
/-! ===== END ===== -/
/-! ===== BEGIN methods with a table of their own: called by a name, returning or throwing ===== -/
section VXH
/-! vx_backW, vx_callVX, vx_callSX, vx_callVW, vx_runVW, vx_runVX, vx_runSX, vx_ofWH follow the same proofs as their sisters above (Free/Laws.lean, Shelf42/LK1.lean); vx_outP calls Shelf42/NT130.lean (outThrough). -/
section
variable {l : Launch} {R : Room} {p : Program} {e : Env} {below : List Frame} {s : State} {sargs : Array Value} {y : MethodName} {len W9 : Nat}
theorem vx_backW {ws : List Cond} {rm : Room} {Pc : Array Value → State → Prop} {Qc : Array Value → State → Outcome → State → Prop} {XC : String → State → State → Prop} {mc ms : Nat} {free : Addr → Prop} {bytes : ByteArray} {maxL : Nat} {ret : Option FieldType} {hh : List (Nat × Nat × Nat × Nat)}
    (hM : vx_Met l y ws rm Pc Qc XC mc ms free) (hblind : FrameBlind Pc) (hrc : rm.cells = mc) (hrs : rm.slots = ms)
    (hframes : rm.frames + 1 ≤ R.frames) (hlocals : W9 + (maxL + 11) + rm.locals ≤ R.locals)
    (hws : ∀ w ∈ ws, ∀ a' U, s.WarmedH U.vm → w.before a' U = true) (hcode : Cond.codeWith y bytes maxL ret hh ∈ ws) (hinit : ∀ a' U, s.WarmedH U.vm → (Cond.initialized y.cls).before a' U = true) :
    vx_Back l R p e below s sargs y len W9 (PreOf R mc ms Pc) (PostOf Qc mc ms free) (vx_Post XC mc ms free) := by
  intro m meth c A g ig mk a X hg hsize hdg hW hn hp
  have h1 : (headSpec ws rm).pre.before a A.U = true := atoms_intro fun w hw => hws w hw _ _ X.warmed
  have h2 : (Cond.codeWith y bytes maxL ret hh).before a A.U = true := hws _ hcode _ _ X.warmed
  have h3 : (Cond.initialized y.cls).before a A.U = true := hinit _ _ X.warmed
  have h4 : A.cells + (headSpec ws rm).room.cells ≤ R.cells := by rw [show (headSpec ws rm).room.cells = mc from hrc]; exact hp.1
  have h5 : A.slots + (headSpec ws rm).room.slots ≤ R.slots := by rw [show (headSpec ws rm).room.slots = ms from hrs]; exact hp.2.1
  have hPc : Pc a (A.U.calling g mk a) := hblind _ _ _ _ hp.2.2
  obtain ⟨U, Ls, c0, s0⟩ := A
  dsimp only [Pt.U, Pt.locs, Pt.cells, Pt.slots] at h1 h2 h3 h4 h5 X hn hPc ⊢
  obtain ⟨m9, methY, cY, hn9, hmY, hcY, -, hlY, -⟩ := Cond.codeWith_spec h2
  cases Option.some.inj (hn9.symm.trans hn)
  obtain ⟨kY, hkY, -⟩ := className_of_methodNamed hn
  have hinitY : kY.init = .initialized := Cond.initialized_spec (findClass_of_methodNamed hn) hkY h3
  have h : At U g.method c below := by rw [hg]; exact X.here
  have hlocals9 : W9 + (maxL + 11) + (headSpec ws rm).room.locals ≤ R.locals := hlocals
  have happ : (headSpec ws rm).appliesLoose y e.platform (U.calling g mk a) = true :=
    Spec.appliesLoose_calling (g := g) h hdg hn hkY hinitY
      (X.room_calling (g := g) (R' := (headSpec ws rm).room) hsize hmY hcY hframes (by rw [hlY]; omega) h4 h5) h1
  obtain ⟨mid, hmid⟩ := h.above
  have hfr : (U.setTop g).frames = (.java g :: mid) ++ below := by rw [State.frames_setTop' g h.top, hmid]; rfl
  obtain ⟨o, s₂, hsteps, -, hend, hq⟩ := Steps.callFree hM p X.admits X.cas X.clock (acts := []) hfr happ hPc trivial
  have hq' : vx_Q Qc XC mc ms free a (U.calling g mk a) o s₂ := hq
  rw [State.frames_setTop' g h.top] at hend
  obtain ⟨g₀, hg0⟩ := Option.isSome_iff_exists.mp h.top
  obtain ⟨r, hr⟩ := State.topJava?_eq_some.mp hg0
  have hr' : (({ U with heap := s₂.heap, slotsUsed := s₂.slotsUsed } : State).setVm s₂.vm).frames = .java g₀ :: r := hr
  rcases hq' with ⟨hqc, L, hfe, hL⟩ | ⟨q, rfl, E, ce, L, hx, hce, hcv, hcl, hW₂, hsm, hL⟩
  · obtain ⟨⟨v, rfl⟩, hW₂, e2, q2, q3, q4, q5, q6⟩ := id hfe
    have e3 : s₂ = ({ (U.calling g mk a).setFrames s₂.frames with heap := s₂.heap, slotsUsed := s₂.slotsUsed } : State).setVm s₂.vm := by
      have : s₂ = ({ s₂ with vm := (U.calling g mk a).vm } : State).setVm s₂.vm := rfl
      rw [e2] at this
      exact this
    obtain ⟨c₂, i₂, len₂, hc₂, hd₂, hf₂⟩ := hend
    have hW' : U.WarmedH s₂.vm := hW₂
    have hcc : c₂ = c := by
      have h1 : s₂.code? g.method = U.code? g.method := by
        rw [State.code?_eq, State.code?_eq, hW'.alike.method?]
      exact Option.some.inj (hc₂.symm.trans (h1.trans h.code))
    subst hcc
    have hlen : len₂ = len := by rw [hdg] at hd₂; cases hd₂; rfl
    subst hlen
    have hs₂ : s₂ = (({ U with heap := s₂.heap, slotsUsed := s₂.slotsUsed } : State).setVm s₂.vm).setTop { g with pc := g.pc + len₂, stack := v.toList ++ g.stack } := by
      refine e3.trans ?_
      rw [hf₂, State.calling_eq h.top, State.setFrames_setFrames, State.setTop_of_frames _ hr', hr]
      rfl
    have hsame : U.sameButNew ({ U with heap := s₂.heap, slotsUsed := s₂.slotsUsed } : State) L mc ms := by
      refine ⟨?_, q2, q3, q4, q5, q6⟩
      obtain ⟨t, ht, -⟩ := State.frames_cons hr
      show ({ U with heap := s₂.heap, slotsUsed := s₂.slotsUsed } : State) = { U.setFrames U.frames with heap := s₂.heap, slotsUsed := s₂.slotsUsed }
      rw [State.setFrames_self ht]
    subst hg
    refine Or.inl ⟨v, ⟨(({ U with heap := s₂.heap, slotsUsed := s₂.slotsUsed } : State).setVm s₂.vm), Ls ++ L, c0 + mc, s0 + ms⟩,
      ⟨X.admits, X.cas, X.clock, X.frames, X.room, X.hears, X.method, X.code, (X.here.setHeapUsed s₂.heap s₂.slotsUsed).setVm hW'.alike, X.tail, State.WarmedH.trans X.warmed hW', X.limits, X.bytes, X.same.trans (hsame.setVm s.vm)⟩,
      ⟨g, mk, s₂, L, rfl, rfl, hqc, rfl, hL, rfl, rfl⟩, ?_⟩
    show Steps p.tables e below _ ((({ U with heap := s₂.heap, slotsUsed := s₂.slotsUsed } : State).setVm s₂.vm).setTop { g with pc := g.pc + len₂, stack := v.toList ++ g.stack })
    rw [← hs₂]
    exact hsteps
  · obtain ⟨e2, q2, q3, q4, q5, q6⟩ := id hsm
    have e3 : s₂ = ({ (U.calling g mk a).setFrames s₂.frames with heap := s₂.heap, slotsUsed := s₂.slotsUsed } : State).setVm s₂.vm := by
      have : s₂ = ({ s₂ with vm := (U.calling g mk a).vm } : State).setVm s₂.vm := rfl
      rw [e2] at this
      exact this
    have hf₂ : s₂.frames = .throwing q :: .java g :: U.frames.tail := hend
    have hW' : U.WarmedH s₂.vm := hW₂
    have hs₂ : s₂ = ((({ U with heap := s₂.heap, slotsUsed := s₂.slotsUsed } : State).setVm s₂.vm).setTop g).pushFrame (.throwing q) := by
      refine e3.trans ?_
      rw [hf₂, State.calling_eq h.top, State.setFrames_setFrames, State.pushFrame, State.frames_setTop _ hr', State.setTop_of_frames _ hr', State.setFrames_setFrames, hr]
      rfl
    have hsame : U.sameButNew ({ U with heap := s₂.heap, slotsUsed := s₂.slotsUsed } : State) L mc ms := by
      refine ⟨?_, q2, q3, q4, q5, q6⟩
      obtain ⟨t, ht, -⟩ := State.frames_cons hr
      show ({ U with heap := s₂.heap, slotsUsed := s₂.slotsUsed } : State) = { U.setFrames U.frames with heap := s₂.heap, slotsUsed := s₂.slotsUsed }
      rw [State.setFrames_self ht]
    subst hg
    refine Or.inr ⟨q, ⟨(({ U with heap := s₂.heap, slotsUsed := s₂.slotsUsed } : State).setVm s₂.vm), Ls ++ L, c0 + mc, s0 + ms⟩,
      ⟨X.admits, X.cas, X.clock, X.frames, X.room, X.hears, X.method, X.code, (X.here.setHeapUsed s₂.heap s₂.slotsUsed).setVm hW'.alike, X.tail, State.WarmedH.trans X.warmed hW', X.limits, X.bytes, X.same.trans (hsame.setVm s.vm)⟩,
      ⟨g, mk, s₂, L, E, ce, rfl, rfl, hx, hce, hcv, hcl, rfl, hL, rfl, rfl⟩, ?_⟩
    show Steps p.tables e below _ (((({ U with heap := s₂.heap, slotsUsed := s₂.slotsUsed } : State).setVm s₂.vm).setTop g).pushFrame (.throwing q))
    rw [← hs₂]
    exact hsteps
end
variable {p : Program} {l : Launch} {e : Env} {R : Room} {s : State} {m : MethodId} {args : Array Value} {below : List Frame} {meth : Method} {c : Code} {T : State} {H : Heap} {locs : List Loc} {cells slots : Nat}
theorem vx_callVX (X : Stand p l e R s m args below meth c T locs cells slots) (hexec : p.tables.exec = Jvm.exec) {own C : String} {index : Nat} {y : MethodName} {bytes : ByteArray} {maxL : Nat} {ret : Option FieldType} {hh : List (Nat × Nat × Nat × Nat)}
    (hown : s.vm.findClass own = some m.cls) (hlink : (Cond.methodLink own index y).before args s = true) (hinst : (Cond.instanceMethod y).before args s = true) (hsel : (Cond.selects C y y).before args s = true)
    (hcode : (Cond.codeWith y bytes maxL ret hh).before args s = true) (hy : y.cls ≠ "java/lang/invoke/MethodHandle" ∧ y.cls ≠ "java/lang/invoke/VarHandle")
    {W9 : Nat} {Pre : Pt → Array Value → Prop} {Post : Pt → Array Value → Option Value → Pt → Prop} {PostX : Pt → Array Value → Addr → Pt → Prop} (hK : vx_Back l R p e below s args y 3 W9 Pre Post PostX)
    {b : Addr} {cellB : Cell} (hcell : T.heap[b]? = some cellB) (hobj : cellB.vm.isStatics = false) (hcls : s.vm.findClass C = some cellB.cls)
    {g : JFrame} (hg : g.method = m) (hsize : g.locals.size = c.maxLocals) {argsL rest : List Value} (hlen : ∀ sig, parseMethodDescriptor y.desc = some sig → argsL.length = sig.parameters.length)
    (hstack : g.stack = argsL.reverse ++ .ref b :: rest) (hW : 2 * g.monitorRoom + (rest.map fun v => v.category).sum ≤ W9) (hdg : decode c.code g.pc = .ok (.invokevirtual index, 3))
    (hpre : ∀ vm₁, s.WarmedH vm₁ → Pre ⟨T.setVm vm₁, locs, cells, slots⟩ (Value.ref b :: argsL).toArray) :
    (∃ (v : Option Value) (vm₁ : Vm) (B : Pt), s.WarmedH vm₁ ∧ Stand p l e R s m args below meth c B.U B.locs B.cells B.slots ∧ Post ⟨T.setVm vm₁, locs, cells, slots⟩ (Value.ref b :: argsL).toArray v B ∧
      ∀ target, Steps p.tables e below (B.U.setTop { g with pc := g.pc + 3, stack := v.toList ++ rest }) target → Steps p.tables e below (T.setTop g) target) ∨
    (∃ (q : Addr) (vm₁ : Vm) (B : Pt), s.WarmedH vm₁ ∧ Stand p l e R s m args below meth c B.U B.locs B.cells B.slots ∧ PostX ⟨T.setVm vm₁, locs, cells, slots⟩ (Value.ref b :: argsL).toArray q B ∧
      Steps p.tables e below (T.setTop g) ((B.U.setTop { g with stack := rest }).pushFrame (.throwing q))) := by
  obtain ⟨mk, methM, hnamed, hmethM, hstM, habM⟩ := Cond.instanceMethod_spec hinst
  obtain ⟨m8, methM', cM, hn8, hmethM', -, -, -, -, -, -, hsigM⟩ := Cond.codeWith_spec hcode
  cases Option.some.inj (hn8.symm.trans hnamed)
  cases hmethM.symm.trans hmethM'
  obtain ⟨c2, r2, m2, q1, q2, q3, q4, kP, hkP, hkPi⟩ := Cond.selects_spec hsel
  cases hcls.symm.trans q1
  cases (State.methodFound?_of_named hnamed hy).symm.trans q2
  cases hnamed.symm.trans q3
  have hselP : selectMethod e.platform s.vm cellB.cls mk = .method mk := by rw [Launch.admits_selectMethod X.admits]; exact q4
  obtain ⟨vm₁, X₁, hstep₁⟩ := X.invokevirtual hexec hown hlink hnamed hmethM hstM hkP hkPi hy (a := b) (cell := cellB) hcell
    (fun z h => by rw [h] at hobj; cases hobj) hselP hmethM habM hkP hkPi (g := g) hg (argsL := argsL) (rest := rest) (hlen _ hsigM) hstack hdg
  rcases hK m meth c ⟨T.setVm vm₁, locs, cells, slots⟩ { g with stack := rest } (.invokevirtual index) mk (Value.ref b :: argsL).toArray X₁ hg hsize hdg hW (X₁.named hnamed) (hpre vm₁ X₁.warmed) with ⟨v, B, X', hpost, hsteps⟩ | ⟨q, B, X', hpost, hsteps⟩
  · exact Or.inl ⟨v, vm₁, B, X₁.warmed, X', hpost, fun target h => hstep₁ _ fun acts => by rw [doInvoke_state]; exact hsteps.trans h⟩
  · exact Or.inr ⟨q, vm₁, B, X₁.warmed, X', hpost, hstep₁ _ fun acts => by rw [doInvoke_state]; exact hsteps⟩
theorem vx_callSX (X : Stand p l e R s m args below meth c T locs cells slots) (hexec : p.tables.exec = Jvm.exec) {own : String} {index : Nat} {y : MethodName} {bytes : ByteArray} {maxL : Nat} {ret : Option FieldType} {hh : List (Nat × Nat × Nat × Nat)}
    (hown : s.vm.findClass own = some m.cls) (hlink : (Cond.methodLink own index y).before args s = true) (hstat : (Cond.static y).before args s = true) (hinit : (Cond.initialized y.cls).before args s = true)
    (hcode : (Cond.codeWith y bytes maxL ret hh).before args s = true) (hy : y.cls ≠ "java/lang/invoke/MethodHandle" ∧ y.cls ≠ "java/lang/invoke/VarHandle")
    {W9 : Nat} {Pre : Pt → Array Value → Prop} {Post : Pt → Array Value → Option Value → Pt → Prop} {PostX : Pt → Array Value → Addr → Pt → Prop} (hK : vx_Back l R p e below s args y 3 W9 Pre Post PostX)
    {g : JFrame} (hg : g.method = m) (hsize : g.locals.size = c.maxLocals) {argsL rest : List Value} (hlen : ∀ sig, parseMethodDescriptor y.desc = some sig → argsL.length = sig.parameters.length)
    (hstack : g.stack = argsL.reverse ++ rest) (hW : 2 * g.monitorRoom + (rest.map fun v => v.category).sum ≤ W9) (hdg : decode c.code g.pc = .ok (.invokestatic index, 3))
    (hpre : ∀ vm₁, s.WarmedH vm₁ → Pre ⟨T.setVm vm₁, locs, cells, slots⟩ argsL.toArray) :
    (∃ (v : Option Value) (vm₁ : Vm) (B : Pt), s.WarmedH vm₁ ∧ Stand p l e R s m args below meth c B.U B.locs B.cells B.slots ∧ Post ⟨T.setVm vm₁, locs, cells, slots⟩ argsL.toArray v B ∧
      ∀ target, Steps p.tables e below (B.U.setTop { g with pc := g.pc + 3, stack := v.toList ++ rest }) target → Steps p.tables e below (T.setTop g) target) ∨
    (∃ (q : Addr) (vm₁ : Vm) (B : Pt), s.WarmedH vm₁ ∧ Stand p l e R s m args below meth c B.U B.locs B.cells B.slots ∧ PostX ⟨T.setVm vm₁, locs, cells, slots⟩ argsL.toArray q B ∧
      Steps p.tables e below (T.setTop g) ((B.U.setTop { g with stack := rest }).pushFrame (.throwing q))) := by
  obtain ⟨mk, methM, cM, hnamed, hmethM, -, -, -, -, -, -, hsigM⟩ := Cond.codeWith_spec hcode
  have hstatic : methM.isStatic = true := Cond.static_spec hnamed hmethM hstat
  obtain ⟨kP, hkP, -⟩ := className_of_methodNamed hnamed
  have hinitP : kP.init = .initialized := Cond.initialized_spec (findClass_of_methodNamed hnamed) hkP hinit
  obtain ⟨vm₁, X₁, hstep₁⟩ := X.invokestatic hexec hown hlink hnamed hmethM hstatic hkP hinitP hy (g := g) hg (argsL := argsL) (rest := rest) (hlen _ hsigM) hstack hdg
  rcases hK m meth c ⟨T.setVm vm₁, locs, cells, slots⟩ { g with stack := rest } (.invokestatic index) mk argsL.toArray X₁ hg hsize hdg hW (X₁.named hnamed) (hpre vm₁ X₁.warmed) with ⟨v, B, X', hpost, hsteps⟩ | ⟨q, B, X', hpost, hsteps⟩
  · exact Or.inl ⟨v, vm₁, B, X₁.warmed, X', hpost, fun target h => hstep₁ _ fun acts => by rw [doInvoke_state]; exact hsteps.trans h⟩
  · exact Or.inr ⟨q, vm₁, B, X₁.warmed, X', hpost, hstep₁ _ fun acts => by rw [doInvoke_state]; exact hsteps⟩
theorem vx_callVW (X : Stand p l e R s m args below meth c T locs cells slots) (hexec : p.tables.exec = Jvm.exec) {own C : String} {index : Nat} {y : MethodName} {bytes : ByteArray} {maxL : Nat} {ret : Option FieldType} {hh : List (Nat × Nat × Nat × Nat)}
    (hown : s.vm.findClass own = some m.cls) (hlink : (Cond.methodLink own index y).before args s = true) (hinst : (Cond.instanceMethod y).before args s = true) (hsel : (Cond.selects C y y).before args s = true)
    (hcode : (Cond.codeWith y bytes maxL ret hh).before args s = true) (hy : y.cls ≠ "java/lang/invoke/MethodHandle" ∧ y.cls ≠ "java/lang/invoke/VarHandle")
    {W9 : Nat} {Pre : Pt → Array Value → Prop} {Post : Pt → Array Value → Option Value → Pt → Prop} (hK : Back l R p e below s args y 3 W9 Pre Post)
    {b : Addr} {cellB : Cell} (hcell : T.heap[b]? = some cellB) (hobj : cellB.vm.isStatics = false) (hcls : s.vm.findClass C = some cellB.cls)
    {g : JFrame} (hg : g.method = m) (hsize : g.locals.size = c.maxLocals) {argsL rest : List Value} (hlen : ∀ sig, parseMethodDescriptor y.desc = some sig → argsL.length = sig.parameters.length)
    (hstack : g.stack = argsL.reverse ++ .ref b :: rest) (hW : 2 * g.monitorRoom + (rest.map fun v => v.category).sum ≤ W9) (hdg : decode c.code g.pc = .ok (.invokevirtual index, 3))
    (hpre : ∀ vm₁, s.WarmedH vm₁ → Pre ⟨T.setVm vm₁, locs, cells, slots⟩ (Value.ref b :: argsL).toArray) :
    ∃ (v : Option Value) (vm₁ : Vm) (B : Pt), s.WarmedH vm₁ ∧ Stand p l e R s m args below meth c B.U B.locs B.cells B.slots ∧ Post ⟨T.setVm vm₁, locs, cells, slots⟩ (Value.ref b :: argsL).toArray v B ∧
      ∀ target, Steps p.tables e below (B.U.setTop { g with pc := g.pc + 3, stack := v.toList ++ rest }) target → Steps p.tables e below (T.setTop g) target := by
  obtain ⟨mk, methM, hnamed, hmethM, hstM, habM⟩ := Cond.instanceMethod_spec hinst
  obtain ⟨m8, methM', cM, hn8, hmethM', -, -, -, -, -, -, hsigM⟩ := Cond.codeWith_spec hcode
  cases Option.some.inj (hn8.symm.trans hnamed)
  cases hmethM.symm.trans hmethM'
  obtain ⟨c2, r2, m2, q1, q2, q3, q4, kP, hkP, hkPi⟩ := Cond.selects_spec hsel
  cases hcls.symm.trans q1
  cases (State.methodFound?_of_named hnamed hy).symm.trans q2
  cases hnamed.symm.trans q3
  have hselP : selectMethod e.platform s.vm cellB.cls mk = .method mk := by rw [Launch.admits_selectMethod X.admits]; exact q4
  obtain ⟨vm₁, X₁, hstep₁⟩ := X.invokevirtual hexec hown hlink hnamed hmethM hstM hkP hkPi hy (a := b) (cell := cellB) hcell
    (fun z h => by rw [h] at hobj; cases hobj) hselP hmethM habM hkP hkPi (g := g) hg (argsL := argsL) (rest := rest) (hlen _ hsigM) hstack hdg
  obtain ⟨v, B, X', hpost, hsteps⟩ := hK m meth c ⟨T.setVm vm₁, locs, cells, slots⟩ { g with stack := rest } (.invokevirtual index) mk (Value.ref b :: argsL).toArray X₁ hg hsize hdg hW (X₁.named hnamed) (hpre vm₁ X₁.warmed)
  exact ⟨v, vm₁, B, X₁.warmed, X', hpost, fun target h => hstep₁ _ fun acts => by rw [doInvoke_state]; exact hsteps.trans h⟩
abbrev vx_CVW (R : Room) (s : State) (args : Array Value) (own C : String) (index : Nat) (y : MethodName) (bytes : ByteArray) (maxL : Nat) (ret : Option FieldType) (hh : List (Nat × Nat × Nat × Nat)) (ws : List Cond) (rm : Room) (mc ms n : Nat) : Prop :=
  (rm.cells = mc ∧ rm.slots = ms ∧ rm.frames + 1 ≤ R.frames ∧ 8 + (maxL + 11) + rm.locals ≤ R.locals ∧ (∀ w ∈ ws, ∀ (a' : Array Value) (U : State), s.WarmedH U.vm → w.before a' U = true) ∧ Cond.codeWith y bytes maxL ret hh ∈ ws) ∧
  (Cond.codeWith y bytes maxL ret hh).before args s = true ∧ (Cond.initialized y.cls).before args s = true ∧ (y.cls ≠ "java/lang/invoke/MethodHandle" ∧ y.cls ≠ "java/lang/invoke/VarHandle") ∧
  (∀ sig, parseMethodDescriptor y.desc = some sig → n = sig.parameters.length) ∧ (Cond.methodLink own index y).before args s = true ∧ (Cond.instanceMethod y).before args s = true ∧ (Cond.selects C y y).before args s = true
theorem vx_cwVW {own C : String} {index maxL mc ms : Nat} {y : MethodName} {bytes : ByteArray} {ret : Option FieldType} {hh : List (Nat × Nat × Nat × Nat)} {Ts ws ws' : List Cond} {rm : Room} (n : Nat) (ht : ∀ w ∈ Ts, w.before args s = true) (hT : GoodIn Ts (wsV own index C y ws)) (hw : ws = Cond.codeWith y bytes maxL ret hh :: ws') (hrc : rm.cells = mc) (hrs : rm.slots = ms)
    (hd : y.cls = C ∧ y.cls ≠ "java/lang/invoke/MethodHandle" ∧ y.cls ≠ "java/lang/invoke/VarHandle" ∧ (parseMethodDescriptor y.desc).map (fun d => d.parameters.length) = some n) (hR : rm.frames + 1 ≤ R.frames ∧ 8 + (maxL + 11) + rm.locals ≤ R.locals) :
    vx_CVW R s args own C index y bytes maxL ret hh ws rm mc ms n := by
  obtain ⟨hC, hd⟩ := hd
  subst hC
  have ok : ∀ w ∈ wsV own index y.cls y ws, w.before args s = true := fun w h => ht w (hT w h).1
  have hG : GoodIn Ts ws := fun w h => hT w (by unfold wsV; exact List.mem_append_right _ h)
  have hc : Cond.codeWith y bytes maxL ret hh ∈ ws := by rw [hw]; exact List.mem_cons_self
  refine ⟨⟨hrc, hrs, hR.1, hR.2, pay_in ht hG, hc⟩, ht _ (hG _ hc).1, ok _ (by simp [wsV]), ⟨hd.1, hd.2.1⟩, fun sig h => ?_, ok _ (by simp [wsV]), ok _ (by simp [wsV]), ok _ (by simp [wsV])⟩
  have h2 := hd.2.2
  rw [h] at h2
  exact (Option.some.inj h2).symm
theorem vx_runVW {y : MethodName} {bytes cc : ByteArray} {maxL nL mc ms n index : Nat} {ret : Option FieldType} {hh : List (Nat × Nat × Nat × Nat)} {ws : List Cond} {rm : Room} {Pc : Array Value → State → Prop} {Qc : Array Value → State → Outcome → State → Prop} {free : Addr → Prop} {Ts : List Cond} {own C : String} {b : Addr} {As rest : List Value} {g : JFrame}
    (S : CallFix p m c cc nL s args Ts own) (hM : Met l y ws rm Pc Qc mc ms free) (cw : vx_CVW R s args own C index y bytes maxL ret hh ws rm mc ms n) (hp : PreV s H C b Pc As)
    (hg : g.method = m) (hn : As.length = n) (hsize : g.locals.size = nL) (hstack : g.stack = As.reverse ++ .ref b :: rest) (hW : 2 * g.monitorRoom + (rest.map fun v => v.category).sum ≤ 8) (hdg : decode cc g.pc = .ok (.invokevirtual index, 3)) (hf : cells + mc ≤ R.cells ∧ slots + ms ≤ R.slots) :
    va_Run p l e R s m args below meth c H locs cells slots mc ms g rest (Qc (Value.ref b :: As).toArray) free := by
  obtain ⟨⟨hrc, hrs, hfr, hlo, hws, hcw⟩, hcode, hini, hy, hlen, hl, hin, hse⟩ := cw
  have hK : Back l R p e below s args y 3 8 (PreOf R mc ms Pc) (PostOf Qc mc ms free) := va_backW (hh := hh) (bytes := bytes) (maxL := maxL) (ret := ret) hM hp.1 hrc hrs hfr hlo hws hcw (fun a' U hW => word_at hW (Or.inl (by first | rfl | simp [Cond.onTables, Cond.keeps, Cond.steady])) hini)
  obtain ⟨hx, hb, hml, ho, -⟩ := S
  obtain ⟨-, ⟨cellB, hcB, hoB, hclB⟩, hPc⟩ := hp
  intro T hT X
  obtain ⟨v, vm₁, ⟨U', l2, c2, s2⟩, hW₁, X', ⟨g', mk, t, L, e1, e2, hq, h1, hL, h2, h3⟩, st⟩ := vx_callVW X hx (C := C) (hh := hh) (bytes := bytes) (maxL := maxL) (ret := ret) ho hl hin hse hcode hy hK (by rw [hT]; exact hcB) hoB hclB hg (hsize.trans hml.symm) (argsL := As) (rest := rest) (fun sig h => hn.trans (hlen sig h)) hstack hW (by rw [hb]; exact hdg)
    (fun vm₁ hW₁ => ⟨hf.1, hf.2, hPc (T.setVm vm₁) hT hW₁⟩)
  dsimp only [Pt.U, Pt.locs, Pt.cells, Pt.slots] at X' e1 e2 h1 h2 h3 st
  subst h1; subst h2; subst h3
  exact ⟨v, (T.setVm vm₁).calling g' mk (Value.ref b :: As).toArray, t, U', L, hT, X', hL, e1, e2, hq, st⟩
section
variable {y : MethodName} {bytes cc : ByteArray} {maxL nL mc ms n index : Nat} {ret : Option FieldType} {ws : List Cond} {rm : Room} {Pc : Array Value → State → Prop} {Qc : Array Value → State → Outcome → State → Prop} {XC : String → State → State → Prop} {free : Addr → Prop} {Ts : List Cond} {own C : String} {b : Addr} {As rest : List Value} {g : JFrame}
theorem vx_runVX {hh : List (Nat × Nat × Nat × Nat)} (S : CallFix p m c cc nL s args Ts own) (hM : vx_Met l y ws rm Pc Qc XC mc ms free) (cw : vx_CVW R s args own C index y bytes maxL ret hh ws rm mc ms n) (hp : PreV s H C b Pc As)
    (hg : g.method = m) (hn : As.length = n) (hsize : g.locals.size = nL) (hstack : g.stack = As.reverse ++ .ref b :: rest) (hW : 2 * g.monitorRoom + (rest.map fun v => v.category).sum ≤ 8) (hdg : decode cc g.pc = .ok (.invokevirtual index, 3)) (hf : cells + mc ≤ R.cells ∧ slots + ms ≤ R.slots) :
    vx_Run p l e R s m args below meth c H locs cells slots mc ms g rest (Qc (Value.ref b :: As).toArray) XC free := by
  obtain ⟨⟨hrc, hrs, hfr, hlo, hws, hcw⟩, hcode, hini, hy, hlen, hl, hin, hse⟩ := cw
  have hK : vx_Back l R p e below s args y 3 8 (PreOf R mc ms Pc) (PostOf Qc mc ms free) (vx_Post XC mc ms free) := vx_backW (hh := hh) (bytes := bytes) (maxL := maxL) (ret := ret) hM hp.1 hrc hrs hfr hlo hws hcw (fun a' U hW => word_at hW (Or.inl (by first | rfl | simp [Cond.onTables, Cond.keeps, Cond.steady])) hini)
  obtain ⟨hx, hb, hml, ho, -⟩ := S
  obtain ⟨-, ⟨cellB, hcB, hoB, hclB⟩, hPc⟩ := hp
  intro T hT X
  rcases vx_callVX X hx (C := C) (hh := hh) (bytes := bytes) (maxL := maxL) (ret := ret) ho hl hin hse hcode hy hK (by rw [hT]; exact hcB) hoB hclB hg (hsize.trans hml.symm) (argsL := As) (rest := rest) (fun sig h => hn.trans (hlen sig h)) hstack hW (by rw [hb]; exact hdg)
    (fun vm₁ hW₁ => ⟨hf.1, hf.2, hPc (T.setVm vm₁) hT hW₁⟩) with ⟨v, vm₁, ⟨U', l2, c2, s2⟩, hW₁, X', ⟨g', mk, t, L, e1, e2, hq, h1, hL, h2, h3⟩, st⟩ | ⟨q, vm₁, ⟨U', l2, c2, s2⟩, hW₁, X', ⟨g', mk, t, L, E, ce, e1, e2, hq, hce, hcv, hcl, h1, hL, h2, h3⟩, st⟩
  · dsimp only [Pt.U, Pt.locs, Pt.cells, Pt.slots] at X' e1 e2 h1 h2 h3 st
    subst h1; subst h2; subst h3
    exact Or.inl ⟨v, (T.setVm vm₁).calling g' mk (Value.ref b :: As).toArray, t, U', L, hT, X', hL, e1, e2, hq, st⟩
  · dsimp only [Pt.U, Pt.locs, Pt.cells, Pt.slots] at X' e1 e2 h1 h2 h3 st hcl
    subst h1; subst h2; subst h3
    exact Or.inr ⟨q, (T.setVm vm₁).calling g' mk (Value.ref b :: As).toArray, t, U', L, E, ce, hT, X', hL, e1, e2, hq, hce, hcv, vx_cls hW₁ hcl, st⟩
theorem vx_runSX {hh : List (Nat × Nat × Nat × Nat)} (S : CallFix p m c cc nL s args Ts own) (hM : vx_Met l y ws rm Pc Qc XC mc ms free) (cw : vx_CSW R s args own index y bytes maxL ret hh ws rm mc ms n) (hp : PreS s H Pc As)
    (hg : g.method = m) (hn : As.length = n) (hsize : g.locals.size = nL) (hstack : g.stack = As.reverse ++ rest) (hW : 2 * g.monitorRoom + (rest.map fun v => v.category).sum ≤ 8) (hdg : decode cc g.pc = .ok (.invokestatic index, 3)) (hf : cells + mc ≤ R.cells ∧ slots + ms ≤ R.slots) :
    vx_Run p l e R s m args below meth c H locs cells slots mc ms g rest (Qc As.toArray) XC free := by
  obtain ⟨⟨hrc, hrs, hfr, hlo, hws, hcw⟩, hcode, hini, hy, hlen, hl, hstt⟩ := cw
  have hK : vx_Back l R p e below s args y 3 8 (PreOf R mc ms Pc) (PostOf Qc mc ms free) (vx_Post XC mc ms free) := vx_backW (hh := hh) (bytes := bytes) (maxL := maxL) (ret := ret) hM hp.1 hrc hrs hfr hlo hws hcw (fun a' U hW => word_at hW (Or.inl (by first | rfl | simp [Cond.onTables, Cond.keeps, Cond.steady])) hini)
  obtain ⟨hx, hb, hml, ho, -⟩ := S
  intro T hT X
  rcases vx_callSX X hx (hh := hh) (bytes := bytes) (maxL := maxL) (ret := ret) ho hl hstt hini hcode hy hK hg (hsize.trans hml.symm) (argsL := As) (rest := rest) (fun sig h => hn.trans (hlen sig h)) hstack hW (by rw [hb]; exact hdg)
    (fun vm₁ hW₁ => ⟨hf.1, hf.2, hp.2 (T.setVm vm₁) hT hW₁⟩) with ⟨v, vm₁, ⟨U', l2, c2, s2⟩, hW₁, X', ⟨g', mk, t, L, e1, e2, hq, h1, hL, h2, h3⟩, st⟩ | ⟨q, vm₁, ⟨U', l2, c2, s2⟩, hW₁, X', ⟨g', mk, t, L, E, ce, e1, e2, hq, hce, hcv, hcl, h1, hL, h2, h3⟩, st⟩
  · dsimp only [Pt.U, Pt.locs, Pt.cells, Pt.slots] at X' e1 e2 h1 h2 h3 st
    subst h1; subst h2; subst h3
    exact Or.inl ⟨v, (T.setVm vm₁).calling g' mk As.toArray, t, U', L, hT, X', hL, e1, e2, hq, st⟩
  · dsimp only [Pt.U, Pt.locs, Pt.cells, Pt.slots] at X' e1 e2 h1 h2 h3 st hcl
    subst h1; subst h2; subst h3
    exact Or.inr ⟨q, (T.setVm vm₁).calling g' mk As.toArray, t, U', L, E, ce, hT, X', hL, e1, e2, hq, hce, hcv, vx_cls hW₁ hcl, st⟩
end
end VXH
theorem vx_ofWH {l : Launch} {y : MethodName} {ws ws' : List Cond} {rm : Room} {Pc : Array Value → State → Prop} {Qc : Array Value → State → Outcome → State → Prop} {XC : String → State → State → Prop} {mc ms : Nat} {free : Addr → Prop} {cc : ByteArray} {maxL : Nat} {ret : Option FieldType} {hh : List (Nat × Nat × Nat × Nat)}
    (hy : plainName y.cls = true) (hw : ws = Cond.codeWith y cc maxL ret hh :: ws')
    (body : ∀ p e s m args below meth c s₁, BodyLoose p l y (headSpec ws rm) cc maxL ret e s m args below meth c s₁ → c.maxLocals = maxL → Pc args s →
      W p l e (headSpec ws rm).room s m args below meth c s.heap [] 0 0 (vx_MQ below Qc XC args s mc ms free) (entryFrame m args maxL)) : vx_Met l y ws rm Pc Qc XC mc ms free := by
  refine MetFree.of_bodyS (code := cc) (maxLocals := maxL) (ret := ret) hy ?_ ?_
  · intro args s m h hn
    obtain ⟨m9, meth, c, hn9, h1, h2, h3, h4, -, h5, h6, -⟩ := Cond.codeWith_spec (atoms_spec (ws := ws) h _ (by rw [hw]; exact List.mem_cons_self))
    cases hn.symm.trans hn9
    exact ⟨meth, c, h1, h2, h3, h4, h5, h6⟩
  · intro p e s m args below meth c s₁ B hml hP _
    have hh0 : s₁.heap = s.heap := by rw [B.state]; rfl
    obtain ⟨t, a1, o, b1, b2, b3⟩ := body p e s m args below meth c s₁ B hml hP s₁ hh0 (Stand.of_body B)
    exact ⟨t, o, a1, b1, b2, b3⟩
/-! ===== END ===== -/
end
section
-- ===== PART A: goes FIRST, ahead of the names: the tables' words, and 'selects' of the private methods out of them =====
/-- a private method of a class that the tables say can be made, by its rows of tables_1 -/
def lw_okq (q : MethodName × Nat) : Prop := (q.1.cls ≠ "java/lang/invoke/MethodHandle" ∧ q.1.cls ≠ "java/lang/invoke/VarHandle") ∧ Cond.instantiable q.1.cls q.2 ∈ tables_1 ∧ Cond.privateMethod q.1 ∈ tables_1 ∧ Cond.instanceMethod q.1 ∈ tables_1
theorem lw_p0 : lw_okq (⟨"NightfallVillage$History", "entryAt", "(I)I"⟩, 2) := ⟨⟨by decide +kernel, by decide +kernel⟩, List.mem_of_getElem? (i := 238) (by decide +kernel), List.mem_of_getElem? (i := 419) (by decide +kernel), List.mem_of_getElem? (i := 420) (by decide +kernel)⟩
theorem lw_p1 : lw_okq (⟨"NightfallVillage$Night", "settle", "(I)I"⟩, 11) := ⟨⟨by decide +kernel, by decide +kernel⟩, List.mem_of_getElem? (i := 154) (by decide +kernel), List.mem_of_getElem? (i := 521) (by decide +kernel), List.mem_of_getElem? (i := 522) (by decide +kernel)⟩
theorem lw_p2 : lw_okq (⟨"NightfallVillage$Night", "isFree", "(IC)Z"⟩, 11) := ⟨⟨by decide +kernel, by decide +kernel⟩, List.mem_of_getElem? (i := 154) (by decide +kernel), List.mem_of_getElem? (i := 529) (by decide +kernel), List.mem_of_getElem? (i := 530) (by decide +kernel)⟩
theorem lw_p3 : lw_okq (⟨"NightfallVillage$Night", "isTurnable", "(I)Z"⟩, 11) := ⟨⟨by decide +kernel, by decide +kernel⟩, List.mem_of_getElem? (i := 154) (by decide +kernel), List.mem_of_getElem? (i := 533) (by decide +kernel), List.mem_of_getElem? (i := 534) (by decide +kernel)⟩
theorem lw_p4 : lw_okq (⟨"NightfallVillage$Night", "performOne", "(ILNightfallVillage$Folk;)V"⟩, 11) := ⟨⟨by decide +kernel, by decide +kernel⟩, List.mem_of_getElem? (i := 154) (by decide +kernel), List.mem_of_getElem? (i := 545) (by decide +kernel), List.mem_of_getElem? (i := 546) (by decide +kernel)⟩
theorem lw_p5 : lw_okq (⟨"NightfallVillage$Folk", "followDeath", "(I)V"⟩, 9) := ⟨⟨by decide +kernel, by decide +kernel⟩, List.mem_of_getElem? (i := 118) (by decide +kernel), List.mem_of_getElem? (i := 585) (by decide +kernel), List.mem_of_getElem? (i := 586) (by decide +kernel)⟩
theorem lw_p6 : lw_okq (⟨"NightfallVillage$Worlds", "fitsRoles", "()Z"⟩, 9) := ⟨⟨by decide +kernel, by decide +kernel⟩, List.mem_of_getElem? (i := 292) (by decide +kernel), List.mem_of_getElem? (i := 648) (by decide +kernel), List.mem_of_getElem? (i := 649) (by decide +kernel)⟩
theorem lw_p7 : lw_okq (⟨"NightfallVillage$Worlds", "mayHold", "(II)Z"⟩, 9) := ⟨⟨by decide +kernel, by decide +kernel⟩, List.mem_of_getElem? (i := 292) (by decide +kernel), List.mem_of_getElem? (i := 652) (by decide +kernel), List.mem_of_getElem? (i := 653) (by decide +kernel)⟩
theorem lw_p8 : lw_okq (⟨"NightfallVillage$Worlds", "fitsSights", "()Z"⟩, 9) := ⟨⟨by decide +kernel, by decide +kernel⟩, List.mem_of_getElem? (i := 292) (by decide +kernel), List.mem_of_getElem? (i := 662) (by decide +kernel), List.mem_of_getElem? (i := 663) (by decide +kernel)⟩
theorem lw_p9 : lw_okq (⟨"NightfallVillage$Worlds", "hasDrinkerBesideKnower", "(I)Z"⟩, 9) := ⟨⟨by decide +kernel, by decide +kernel⟩, List.mem_of_getElem? (i := 292) (by decide +kernel), List.mem_of_getElem? (i := 676) (by decide +kernel), List.mem_of_getElem? (i := 677) (by decide +kernel)⟩
theorem lw_p10 : lw_okq (⟨"java/lang/Throwable", "fillInStackTrace", "(I)Ljava/lang/Throwable;"⟩, 6) := ⟨⟨by decide +kernel, by decide +kernel⟩, List.mem_of_getElem? (i := 737) (by decide +kernel), List.mem_of_getElem? (i := 735) (by decide +kernel), List.mem_of_getElem? (i := 736) (by decide +kernel)⟩
theorem lw_p11 : lw_okq (⟨"NightfallVillage", "requireNotBegun", "()V"⟩, 8) := ⟨⟨by decide +kernel, by decide +kernel⟩, List.mem_of_getElem? (i := 40) (by decide +kernel), List.mem_of_getElem? (i := 767) (by decide +kernel), List.mem_of_getElem? (i := 768) (by decide +kernel)⟩
theorem lw_p12 : lw_okq (⟨"NightfallVillage", "requireRole", "(I)V"⟩, 8) := ⟨⟨by decide +kernel, by decide +kernel⟩, List.mem_of_getElem? (i := 40) (by decide +kernel), List.mem_of_getElem? (i := 815) (by decide +kernel), List.mem_of_getElem? (i := 816) (by decide +kernel)⟩
theorem lw_p13 : lw_okq (⟨"NightfallVillage", "requireTwoSeats", "(II)V"⟩, 8) := ⟨⟨by decide +kernel, by decide +kernel⟩, List.mem_of_getElem? (i := 40) (by decide +kernel), List.mem_of_getElem? (i := 860) (by decide +kernel), List.mem_of_getElem? (i := 861) (by decide +kernel)⟩
theorem lw_p14 : lw_okq (⟨"NightfallVillage", "requireSeat", "(I)V"⟩, 8) := ⟨⟨by decide +kernel, by decide +kernel⟩, List.mem_of_getElem? (i := 40) (by decide +kernel), List.mem_of_getElem? (i := 864) (by decide +kernel), List.mem_of_getElem? (i := 865) (by decide +kernel)⟩
theorem lw_p15 : lw_okq (⟨"NightfallVillage", "requireRunning", "()V"⟩, 8) := ⟨⟨by decide +kernel, by decide +kernel⟩, List.mem_of_getElem? (i := 40) (by decide +kernel), List.mem_of_getElem? (i := 925) (by decide +kernel), List.mem_of_getElem? (i := 926) (by decide +kernel)⟩
def lw_privs_1 : List (MethodName × Nat) := [(⟨"NightfallVillage$History", "entryAt", "(I)I"⟩, 2), (⟨"NightfallVillage$Night", "settle", "(I)I"⟩, 11), (⟨"NightfallVillage$Night", "isFree", "(IC)Z"⟩, 11), (⟨"NightfallVillage$Night", "isTurnable", "(I)Z"⟩, 11), (⟨"NightfallVillage$Night", "performOne", "(ILNightfallVillage$Folk;)V"⟩, 11), (⟨"NightfallVillage$Folk", "followDeath", "(I)V"⟩, 9), (⟨"NightfallVillage$Worlds", "fitsRoles", "()Z"⟩, 9), (⟨"NightfallVillage$Worlds", "mayHold", "(II)Z"⟩, 9), (⟨"NightfallVillage$Worlds", "fitsSights", "()Z"⟩, 9), (⟨"NightfallVillage$Worlds", "hasDrinkerBesideKnower", "(I)Z"⟩, 9), (⟨"java/lang/Throwable", "fillInStackTrace", "(I)Ljava/lang/Throwable;"⟩, 6), (⟨"NightfallVillage", "requireNotBegun", "()V"⟩, 8), (⟨"NightfallVillage", "requireRole", "(I)V"⟩, 8), (⟨"NightfallVillage", "requireTwoSeats", "(II)V"⟩, 8), (⟨"NightfallVillage", "requireSeat", "(I)V"⟩, 8), (⟨"NightfallVillage", "requireRunning", "()V"⟩, 8)]
theorem lw_r1 : ∀ q ∈ lw_privs_1, lw_okq q := List.forall_mem_cons.mpr ⟨lw_p0, List.forall_mem_cons.mpr ⟨lw_p1, List.forall_mem_cons.mpr ⟨lw_p2, List.forall_mem_cons.mpr ⟨lw_p3, List.forall_mem_cons.mpr ⟨lw_p4, List.forall_mem_cons.mpr ⟨lw_p5, List.forall_mem_cons.mpr ⟨lw_p6, List.forall_mem_cons.mpr ⟨lw_p7, List.forall_mem_cons.mpr ⟨lw_p8, List.forall_mem_cons.mpr ⟨lw_p9, List.forall_mem_cons.mpr ⟨lw_p10, List.forall_mem_cons.mpr ⟨lw_p11, List.forall_mem_cons.mpr ⟨lw_p12, List.forall_mem_cons.mpr ⟨lw_p13, List.forall_mem_cons.mpr ⟨lw_p14, List.forall_mem_cons.mpr ⟨lw_p15, fun _ h => absurd h List.not_mem_nil⟩⟩⟩⟩⟩⟩⟩⟩⟩⟩⟩⟩⟩⟩⟩⟩
theorem lw_p16 : lw_okq (⟨"NightfallVillage$Sights", "keepLiving", "(IICI)V"⟩, 4) := ⟨⟨by decide +kernel, by decide +kernel⟩, List.mem_of_getElem? (i := 252) (by decide +kernel), List.mem_of_getElem? (i := 951) (by decide +kernel), List.mem_of_getElem? (i := 952) (by decide +kernel)⟩
theorem lw_p17 : lw_okq (⟨"NightfallVillage", "requireNightOver", "(I)V"⟩, 8) := ⟨⟨by decide +kernel, by decide +kernel⟩, List.mem_of_getElem? (i := 40) (by decide +kernel), List.mem_of_getElem? (i := 990) (by decide +kernel), List.mem_of_getElem? (i := 991) (by decide +kernel)⟩
theorem lw_p18 : lw_okq (⟨"NightfallVillage", "requireDay", "()V"⟩, 8) := ⟨⟨by decide +kernel, by decide +kernel⟩, List.mem_of_getElem? (i := 40) (by decide +kernel), List.mem_of_getElem? (i := 1032) (by decide +kernel), List.mem_of_getElem? (i := 1033) (by decide +kernel)⟩
theorem lw_p19 : lw_okq (⟨"NightfallVillage", "requireBegun", "()V"⟩, 8) := ⟨⟨by decide +kernel, by decide +kernel⟩, List.mem_of_getElem? (i := 40) (by decide +kernel), List.mem_of_getElem? (i := 1061) (by decide +kernel), List.mem_of_getElem? (i := 1062) (by decide +kernel)⟩
theorem lw_p20 : lw_okq (⟨"NightfallVillage$Worlds", "countFrom", "(I)I"⟩, 9) := ⟨⟨by decide +kernel, by decide +kernel⟩, List.mem_of_getElem? (i := 292) (by decide +kernel), List.mem_of_getElem? (i := 1147) (by decide +kernel), List.mem_of_getElem? (i := 1148) (by decide +kernel)⟩
theorem lw_p21 : lw_okq (⟨"NightfallVillage$Worlds", "countWith", "(II)I"⟩, 9) := ⟨⟨by decide +kernel, by decide +kernel⟩, List.mem_of_getElem? (i := 292) (by decide +kernel), List.mem_of_getElem? (i := 1151) (by decide +kernel), List.mem_of_getElem? (i := 1152) (by decide +kernel)⟩
theorem lw_p22 : lw_okq (⟨"NightfallVillageModel", "isWrong", "(I)Z"⟩, 26) := ⟨⟨by decide +kernel, by decide +kernel⟩, List.mem_of_getElem? (i := 1266) (by decide +kernel), List.mem_of_getElem? (i := 1486) (by decide +kernel), List.mem_of_getElem? (i := 1487) (by decide +kernel)⟩
theorem lw_p23 : lw_okq (⟨"java/util/ArrayList", "add", "(Ljava/lang/Object;[Ljava/lang/Object;I)V"⟩, 3) := ⟨⟨by decide +kernel, by decide +kernel⟩, List.mem_of_getElem? (i := 1272) (by decide +kernel), List.mem_of_getElem? (i := 1534) (by decide +kernel), List.mem_of_getElem? (i := 1535) (by decide +kernel)⟩
theorem lw_p24 : lw_okq (⟨"java/util/ArrayList", "grow", "()[Ljava/lang/Object;"⟩, 3) := ⟨⟨by decide +kernel, by decide +kernel⟩, List.mem_of_getElem? (i := 1272) (by decide +kernel), List.mem_of_getElem? (i := 1538) (by decide +kernel), List.mem_of_getElem? (i := 1539) (by decide +kernel)⟩
theorem lw_p25 : lw_okq (⟨"java/util/ArrayList", "grow", "(I)[Ljava/lang/Object;"⟩, 3) := ⟨⟨by decide +kernel, by decide +kernel⟩, List.mem_of_getElem? (i := 1272) (by decide +kernel), List.mem_of_getElem? (i := 1542) (by decide +kernel), List.mem_of_getElem? (i := 1543) (by decide +kernel)⟩
theorem lw_p26 : lw_okq (⟨"NightfallVillageModel", "areSeats", "(II)Z"⟩, 26) := ⟨⟨by decide +kernel, by decide +kernel⟩, List.mem_of_getElem? (i := 1266) (by decide +kernel), List.mem_of_getElem? (i := 1648) (by decide +kernel), List.mem_of_getElem? (i := 1649) (by decide +kernel)⟩
theorem lw_p27 : lw_okq (⟨"NightfallVillageModel", "lives", "(I)Z"⟩, 26) := ⟨⟨by decide +kernel, by decide +kernel⟩, List.mem_of_getElem? (i := 1266) (by decide +kernel), List.mem_of_getElem? (i := 1660) (by decide +kernel), List.mem_of_getElem? (i := 1661) (by decide +kernel)⟩
theorem lw_p28 : lw_okq (⟨"NightfallVillageModel", "isOver", "()Z"⟩, 26) := ⟨⟨by decide +kernel, by decide +kernel⟩, List.mem_of_getElem? (i := 1266) (by decide +kernel), List.mem_of_getElem? (i := 1664) (by decide +kernel), List.mem_of_getElem? (i := 1665) (by decide +kernel)⟩
theorem lw_p29 : lw_okq (⟨"NightfallVillageModel", "isOn", "()Z"⟩, 26) := ⟨⟨by decide +kernel, by decide +kernel⟩, List.mem_of_getElem? (i := 1266) (by decide +kernel), List.mem_of_getElem? (i := 1676) (by decide +kernel), List.mem_of_getElem? (i := 1677) (by decide +kernel)⟩
theorem lw_p30 : lw_okq (⟨"NightfallVillageModel", "roleAt", "(I)LNightfallVillageModel$Role;"⟩, 26) := ⟨⟨by decide +kernel, by decide +kernel⟩, List.mem_of_getElem? (i := 1266) (by decide +kernel), List.mem_of_getElem? (i := 1680) (by decide +kernel), List.mem_of_getElem? (i := 1681) (by decide +kernel)⟩
theorem lw_p31 : lw_okq (⟨"NightfallVillageModel", "blocks", "()[C"⟩, 26) := ⟨⟨by decide +kernel, by decide +kernel⟩, List.mem_of_getElem? (i := 1266) (by decide +kernel), List.mem_of_getElem? (i := 1688) (by decide +kernel), List.mem_of_getElem? (i := 1689) (by decide +kernel)⟩
def lw_privs_2 : List (MethodName × Nat) := [(⟨"NightfallVillage$Sights", "keepLiving", "(IICI)V"⟩, 4), (⟨"NightfallVillage", "requireNightOver", "(I)V"⟩, 8), (⟨"NightfallVillage", "requireDay", "()V"⟩, 8), (⟨"NightfallVillage", "requireBegun", "()V"⟩, 8), (⟨"NightfallVillage$Worlds", "countFrom", "(I)I"⟩, 9), (⟨"NightfallVillage$Worlds", "countWith", "(II)I"⟩, 9), (⟨"NightfallVillageModel", "isWrong", "(I)Z"⟩, 26), (⟨"java/util/ArrayList", "add", "(Ljava/lang/Object;[Ljava/lang/Object;I)V"⟩, 3), (⟨"java/util/ArrayList", "grow", "()[Ljava/lang/Object;"⟩, 3), (⟨"java/util/ArrayList", "grow", "(I)[Ljava/lang/Object;"⟩, 3), (⟨"NightfallVillageModel", "areSeats", "(II)Z"⟩, 26), (⟨"NightfallVillageModel", "lives", "(I)Z"⟩, 26), (⟨"NightfallVillageModel", "isOver", "()Z"⟩, 26), (⟨"NightfallVillageModel", "isOn", "()Z"⟩, 26), (⟨"NightfallVillageModel", "roleAt", "(I)LNightfallVillageModel$Role;"⟩, 26), (⟨"NightfallVillageModel", "blocks", "()[C"⟩, 26)]
theorem lw_r2 : ∀ q ∈ lw_privs_2, lw_okq q := List.forall_mem_cons.mpr ⟨lw_p16, List.forall_mem_cons.mpr ⟨lw_p17, List.forall_mem_cons.mpr ⟨lw_p18, List.forall_mem_cons.mpr ⟨lw_p19, List.forall_mem_cons.mpr ⟨lw_p20, List.forall_mem_cons.mpr ⟨lw_p21, List.forall_mem_cons.mpr ⟨lw_p22, List.forall_mem_cons.mpr ⟨lw_p23, List.forall_mem_cons.mpr ⟨lw_p24, List.forall_mem_cons.mpr ⟨lw_p25, List.forall_mem_cons.mpr ⟨lw_p26, List.forall_mem_cons.mpr ⟨lw_p27, List.forall_mem_cons.mpr ⟨lw_p28, List.forall_mem_cons.mpr ⟨lw_p29, List.forall_mem_cons.mpr ⟨lw_p30, List.forall_mem_cons.mpr ⟨lw_p31, fun _ h => absurd h List.not_mem_nil⟩⟩⟩⟩⟩⟩⟩⟩⟩⟩⟩⟩⟩⟩⟩⟩
theorem lw_p32 : lw_okq (⟨"NightfallVillageModel", "tells", "(IC)Z"⟩, 26) := ⟨⟨by decide +kernel, by decide +kernel⟩, List.mem_of_getElem? (i := 1266) (by decide +kernel), List.mem_of_getElem? (i := 1692) (by decide +kernel), List.mem_of_getElem? (i := 1693) (by decide +kernel)⟩
theorem lw_p33 : lw_okq (⟨"NightfallVillageModel", "die", "(Ljava/util/List;C)I"⟩, 26) := ⟨⟨by decide +kernel, by decide +kernel⟩, List.mem_of_getElem? (i := 1266) (by decide +kernel), List.mem_of_getElem? (i := 1703) (by decide +kernel), List.mem_of_getElem? (i := 1704) (by decide +kernel)⟩
theorem lw_p34 : lw_okq (⟨"NightfallVillageModel", "dies", "(IC)V"⟩, 26) := ⟨⟨by decide +kernel, by decide +kernel⟩, List.mem_of_getElem? (i := 1266) (by decide +kernel), List.mem_of_getElem? (i := 1774) (by decide +kernel), List.mem_of_getElem? (i := 1775) (by decide +kernel)⟩
theorem lw_p35 : lw_okq (⟨"NightfallVillageModel", "looks", "()V"⟩, 26) := ⟨⟨by decide +kernel, by decide +kernel⟩, List.mem_of_getElem? (i := 1266) (by decide +kernel), List.mem_of_getElem? (i := 1778) (by decide +kernel), List.mem_of_getElem? (i := 1779) (by decide +kernel)⟩
theorem lw_p36 : lw_okq (⟨"NightfallVillageModel", "livingOf", "(C)I"⟩, 26) := ⟨⟨by decide +kernel, by decide +kernel⟩, List.mem_of_getElem? (i := 1266) (by decide +kernel), List.mem_of_getElem? (i := 1782) (by decide +kernel), List.mem_of_getElem? (i := 1783) (by decide +kernel)⟩
theorem lw_p37 : lw_okq (⟨"NightfallVillageModel", "isNoNight", "(II)Z"⟩, 26) := ⟨⟨by decide +kernel, by decide +kernel⟩, List.mem_of_getElem? (i := 1266) (by decide +kernel), List.mem_of_getElem? (i := 1794) (by decide +kernel), List.mem_of_getElem? (i := 1795) (by decide +kernel)⟩
theorem lw_p38 : lw_okq (⟨"NightfallVillageModel", "sumFor", "(I)I"⟩, 26) := ⟨⟨by decide +kernel, by decide +kernel⟩, List.mem_of_getElem? (i := 1266) (by decide +kernel), List.mem_of_getElem? (i := 1811) (by decide +kernel), List.mem_of_getElem? (i := 1812) (by decide +kernel)⟩
theorem lw_p39 : lw_okq (⟨"NightfallVillageModel", "isNobody", "(I)Z"⟩, 26) := ⟨⟨by decide +kernel, by decide +kernel⟩, List.mem_of_getElem? (i := 1266) (by decide +kernel), List.mem_of_getElem? (i := 1835) (by decide +kernel), List.mem_of_getElem? (i := 1836) (by decide +kernel)⟩
theorem lw_p40 : lw_okq (⟨"NightfallVillageModel", "worldsOf", "(I)Ljava/util/List;"⟩, 26) := ⟨⟨by decide +kernel, by decide +kernel⟩, List.mem_of_getElem? (i := 1266) (by decide +kernel), List.mem_of_getElem? (i := 1875) (by decide +kernel), List.mem_of_getElem? (i := 1876) (by decide +kernel)⟩
theorem lw_p41 : lw_okq (⟨"NightfallVillageModel", "every", "()Ljava/util/List;"⟩, 26) := ⟨⟨by decide +kernel, by decide +kernel⟩, List.mem_of_getElem? (i := 1266) (by decide +kernel), List.mem_of_getElem? (i := 1879) (by decide +kernel), List.mem_of_getElem? (i := 1880) (by decide +kernel)⟩
theorem lw_p42 : lw_okq (⟨"NightfallVillageModel", "all", "([I[IILjava/util/List;)Ljava/util/List;"⟩, 26) := ⟨⟨by decide +kernel, by decide +kernel⟩, List.mem_of_getElem? (i := 1266) (by decide +kernel), List.mem_of_getElem? (i := 1883) (by decide +kernel), List.mem_of_getElem? (i := 1884) (by decide +kernel)⟩
theorem lw_p43 : lw_okq (⟨"NightfallVillageModel", "fits", "([II)Z"⟩, 26) := ⟨⟨by decide +kernel, by decide +kernel⟩, List.mem_of_getElem? (i := 1266) (by decide +kernel), List.mem_of_getElem? (i := 1887) (by decide +kernel), List.mem_of_getElem? (i := 1888) (by decide +kernel)⟩
theorem lw_p44 : lw_okq (⟨"NightfallVillageModel", "isKnown", "([I)Z"⟩, 26) := ⟨⟨by decide +kernel, by decide +kernel⟩, List.mem_of_getElem? (i := 1266) (by decide +kernel), List.mem_of_getElem? (i := 1891) (by decide +kernel), List.mem_of_getElem? (i := 1892) (by decide +kernel)⟩
theorem lw_p45 : lw_okq (⟨"NightfallVillageModel", "holdsFor", "(Ljava/util/List;[I)C"⟩, 26) := ⟨⟨by decide +kernel, by decide +kernel⟩, List.mem_of_getElem? (i := 1266) (by decide +kernel), List.mem_of_getElem? (i := 1916) (by decide +kernel), List.mem_of_getElem? (i := 1917) (by decide +kernel)⟩
theorem lw_p46 : lw_okq (⟨"NightfallVillageModel", "isNoChange", "(II)Z"⟩, 26) := ⟨⟨by decide +kernel, by decide +kernel⟩, List.mem_of_getElem? (i := 1266) (by decide +kernel), List.mem_of_getElem? (i := 1928) (by decide +kernel), List.mem_of_getElem? (i := 1929) (by decide +kernel)⟩
theorem lw_p47 : lw_okq (⟨"NightfallVillageModel", "again", "(II)LNightfallVillageModel;"⟩, 26) := ⟨⟨by decide +kernel, by decide +kernel⟩, List.mem_of_getElem? (i := 1266) (by decide +kernel), List.mem_of_getElem? (i := 1932) (by decide +kernel), List.mem_of_getElem? (i := 1933) (by decide +kernel)⟩
def lw_privs_3 : List (MethodName × Nat) := [(⟨"NightfallVillageModel", "tells", "(IC)Z"⟩, 26), (⟨"NightfallVillageModel", "die", "(Ljava/util/List;C)I"⟩, 26), (⟨"NightfallVillageModel", "dies", "(IC)V"⟩, 26), (⟨"NightfallVillageModel", "looks", "()V"⟩, 26), (⟨"NightfallVillageModel", "livingOf", "(C)I"⟩, 26), (⟨"NightfallVillageModel", "isNoNight", "(II)Z"⟩, 26), (⟨"NightfallVillageModel", "sumFor", "(I)I"⟩, 26), (⟨"NightfallVillageModel", "isNobody", "(I)Z"⟩, 26), (⟨"NightfallVillageModel", "worldsOf", "(I)Ljava/util/List;"⟩, 26), (⟨"NightfallVillageModel", "every", "()Ljava/util/List;"⟩, 26), (⟨"NightfallVillageModel", "all", "([I[IILjava/util/List;)Ljava/util/List;"⟩, 26), (⟨"NightfallVillageModel", "fits", "([II)Z"⟩, 26), (⟨"NightfallVillageModel", "isKnown", "([I)Z"⟩, 26), (⟨"NightfallVillageModel", "holdsFor", "(Ljava/util/List;[I)C"⟩, 26), (⟨"NightfallVillageModel", "isNoChange", "(II)Z"⟩, 26), (⟨"NightfallVillageModel", "again", "(II)LNightfallVillageModel;"⟩, 26)]
theorem lw_r3 : ∀ q ∈ lw_privs_3, lw_okq q := List.forall_mem_cons.mpr ⟨lw_p32, List.forall_mem_cons.mpr ⟨lw_p33, List.forall_mem_cons.mpr ⟨lw_p34, List.forall_mem_cons.mpr ⟨lw_p35, List.forall_mem_cons.mpr ⟨lw_p36, List.forall_mem_cons.mpr ⟨lw_p37, List.forall_mem_cons.mpr ⟨lw_p38, List.forall_mem_cons.mpr ⟨lw_p39, List.forall_mem_cons.mpr ⟨lw_p40, List.forall_mem_cons.mpr ⟨lw_p41, List.forall_mem_cons.mpr ⟨lw_p42, List.forall_mem_cons.mpr ⟨lw_p43, List.forall_mem_cons.mpr ⟨lw_p44, List.forall_mem_cons.mpr ⟨lw_p45, List.forall_mem_cons.mpr ⟨lw_p46, List.forall_mem_cons.mpr ⟨lw_p47, fun _ h => absurd h List.not_mem_nil⟩⟩⟩⟩⟩⟩⟩⟩⟩⟩⟩⟩⟩⟩⟩⟩
def lw_privs : List (MethodName × Nat) := lw_privs_1 ++ (lw_privs_2 ++ (lw_privs_3))
def lw_tbl : List Cond := k2_sels lw_privs ++ tables_1
theorem lw_privs_ok : ∀ q ∈ lw_privs, lw_okq q := by
  show ∀ q ∈ lw_privs_1 ++ (lw_privs_2 ++ (lw_privs_3)), lw_okq q
  exact List.forall_mem_append.mpr ⟨lw_r1, List.forall_mem_append.mpr ⟨lw_r2, lw_r3⟩⟩
/-- the streams that the claim lets the run draw from -/
abbrev lw_cs : List Choice := [Jvm.Choice.named "NaN.bits"]
theorem lw_bits : nanBits ∈ lw_cs := by first | decide | exact List.mem_cons_self | simp [lw_cs, nanBits]
/-! ===== words: those of the tables that stay true as the tables warm ===== -/
def ok_nest : Cond → Bool
  | .fieldLinkNest .. | .methodLinkNest .. => true
  | _ => false
def ok_w (w : Cond) : Bool := goodWord w || (w.onTables && (ok_nest w || w.faceAtom))
def tw : List Cond := lw_tbl.filter ok_w
theorem ok_pay {A A' : Array Value} {s U : State} (hW : s.WarmedH U.vm) {w : Cond} (hg : ok_w w = true) (h : w.before A s = true) : w.before A' U = true := by
  unfold ok_w at hg
  rcases Bool.or_eq_true _ _ ▸ hg with h1 | h1
  · exact word_at hW (good_of_word h1) h
  · obtain ⟨ht, h2⟩ := Bool.and_eq_true _ _ ▸ h1
    rcases Bool.or_eq_true _ _ ▸ h2 with h3 | h3
    · cases w <;> first | (simp [ok_nest] at h3; done) | exact va_tabs rfl (rfl : (s.setVm U.vm).vm = U.vm) (Cond.fieldLinkNest_warmed (args := A) hW h) | exact va_tabs rfl (rfl : (s.setVm U.vm).vm = U.vm) (Cond.methodLinkNest_warmed (args := A) hW h)
    · exact va_tabs ht (rfl : (s.setVm U.vm).vm = U.vm) (Cond.faceAtom_setVm hW.alike w h3 h)
theorem tw_of {s : State} {A : Array Value} (h : ∀ w ∈ lw_tbl, w.before A s = true) : ∀ w ∈ tw, w.before A s = true := fun w hw => h w (List.mem_filter.mp hw).1
theorem tw_in {w : Cond} {i : Nat} (h : tables_1[i]? = some w) (hg : ok_w w = true) : w ∈ tw := List.mem_filter.mpr ⟨List.mem_append_right _ (List.mem_of_getElem? h), hg⟩
theorem tw_inP {w : Cond} {i : Nat} (h : (k2_sels lw_privs)[i]? = some w) (hg : ok_w w = true) : w ∈ tw := List.mem_filter.mpr ⟨List.mem_append_left _ (List.mem_of_getElem? h), hg⟩
/-- the words of a method: its code, and all -/
theorem tw_pay {A : Array Value} {s : State} {cw : Cond} (h : ∀ w ∈ tw, w.before A s = true) (hc : cw ∈ tw) : ∀ w ∈ cw :: tw, ∀ (a' : Array Value) (U : State), s.WarmedH U.vm → w.before a' U = true := fun w hw a' U hW => by
  have hw' : w ∈ tw := (List.mem_cons.mp hw).elim (fun e => e ▸ hc) id
  exact ok_pay hW (List.mem_filter.mp hw').2 (h w hw')
section TC
variable {R : Room} {s : State} {args : Array Value} {own C host : String} {index maxL mc ms : Nat} {y x : MethodName} {bytes : ByteArray} {ret : Option FieldType} {rm : Room} {hh : List (Nat × Nat × Nat × Nat)}
theorem tc_len {y : MethodName} {n : Nat} (h2 : (parseMethodDescriptor y.desc).map (fun d => d.parameters.length) = some n) : ∀ sig, parseMethodDescriptor y.desc = some sig → n = sig.parameters.length := fun sig h => by
  rw [h] at h2
  exact (Option.some.inj h2).symm
theorem tcB (n : Nat) (ht : ∀ w ∈ tw, w.before args s = true) (hc : Cond.code y bytes maxL ret ∈ tw) (hini : Cond.initialized y.cls ∈ tw) (hl : Cond.methodLink own index y ∈ tw) (hrc : rm.cells = mc) (hrs : rm.slots = ms)
    (hd : y.cls ≠ "java/lang/invoke/MethodHandle" ∧ y.cls ≠ "java/lang/invoke/VarHandle" ∧ (parseMethodDescriptor y.desc).map (fun d => d.parameters.length) = some n) (hR : rm.frames + 1 ≤ R.frames ∧ 8 + (maxL + 11) + rm.locals ≤ R.locals) :
    CallB R s args own index y bytes maxL ret (Cond.code y bytes maxL ret :: tw) rm mc ms n :=
  ⟨hrc, hrs, hR.1, hR.2, tw_pay ht hc, List.mem_cons_self, ht _ hc, ht _ hini, ⟨hd.1, hd.2.1⟩, tc_len hd.2.2, ht _ hl⟩
theorem tcV (n : Nat) (ht : ∀ w ∈ tw, w.before args s = true) (hc : Cond.code y bytes maxL ret ∈ tw) (hini : Cond.initialized y.cls ∈ tw) (hl : Cond.methodLink own index y ∈ tw) (hi : Cond.instanceMethod y ∈ tw) (hs : Cond.selects C y y ∈ tw) (hrc : rm.cells = mc) (hrs : rm.slots = ms)
    (hd : y.cls ≠ "java/lang/invoke/MethodHandle" ∧ y.cls ≠ "java/lang/invoke/VarHandle" ∧ (parseMethodDescriptor y.desc).map (fun d => d.parameters.length) = some n) (hR : rm.frames + 1 ≤ R.frames ∧ 8 + (maxL + 11) + rm.locals ≤ R.locals) :
    CallW R s args own C index y bytes maxL ret (Cond.code y bytes maxL ret :: tw) rm mc ms n := ⟨tcB n ht hc hini hl hrc hrs hd hR, ht _ hi, ht _ hs⟩
theorem tcS (n : Nat) (ht : ∀ w ∈ tw, w.before args s = true) (hc : Cond.code y bytes maxL ret ∈ tw) (hini : Cond.initialized y.cls ∈ tw) (hl : Cond.methodLink own index y ∈ tw) (hs : Cond.static y ∈ tw) (hrc : rm.cells = mc) (hrs : rm.slots = ms)
    (hd : y.cls ≠ "java/lang/invoke/MethodHandle" ∧ y.cls ≠ "java/lang/invoke/VarHandle" ∧ (parseMethodDescriptor y.desc).map (fun d => d.parameters.length) = some n) (hR : rm.frames + 1 ≤ R.frames ∧ 8 + (maxL + 11) + rm.locals ≤ R.locals) :
    CallB R s args own index y bytes maxL ret (Cond.code y bytes maxL ret :: tw) rm mc ms n ∧ (Cond.static y).before args s = true := ⟨tcB n ht hc hini hl hrc hrs hd hR, ht _ hs⟩
theorem tcI (n : Nat) (ht : ∀ w ∈ tw, w.before args s = true) (hc : Cond.code y bytes maxL none ∈ tw) (hini : Cond.initialized y.cls ∈ tw) (hl : Cond.methodLink own index y ∈ tw) (hi : Cond.instanceMethod y ∈ tw) (hn : y.name = "<init>") (hrc : rm.cells = mc) (hrs : rm.slots = ms)
    (hd : y.cls ≠ "java/lang/invoke/MethodHandle" ∧ y.cls ≠ "java/lang/invoke/VarHandle" ∧ (parseMethodDescriptor y.desc).map (fun d => d.parameters.length) = some n) (hR : rm.frames + 1 ≤ R.frames ∧ 8 + (maxL + 11) + rm.locals ≤ R.locals) :
    CallB R s args own index y bytes maxL none (Cond.code y bytes maxL none :: tw) rm mc ms n ∧ y.name = "<init>" ∧ (Cond.instanceMethod y).before args s = true := ⟨tcB n ht hc hini hl hrc hrs hd hR, hn, ht _ hi⟩
theorem tcN (n : Nat) (ht : ∀ w ∈ tw, w.before args s = true) (hc : Cond.code y bytes maxL ret ∈ tw) (hini : Cond.initialized y.cls ∈ tw) (hl : Cond.methodLinkNest own index y host ∈ tw) (hrc : rm.cells = mc) (hrs : rm.slots = ms)
    (hd : y.cls ≠ "java/lang/invoke/MethodHandle" ∧ y.cls ≠ "java/lang/invoke/VarHandle" ∧ (parseMethodDescriptor y.desc).map (fun d => d.parameters.length) = some n) (hR : rm.frames + 1 ≤ R.frames ∧ 8 + (maxL + 11) + rm.locals ≤ R.locals) :
    va_CN R s args own index y host bytes maxL ret (Cond.code y bytes maxL ret :: tw) rm mc ms n :=
  ⟨⟨hrc, hrs, hR.1, hR.2, tw_pay ht hc, List.mem_cons_self⟩, ht _ hc, ht _ hini, ⟨hd.1, hd.2.1⟩, tc_len hd.2.2, ht _ hl⟩
theorem tcIN (n : Nat) (ht : ∀ w ∈ tw, w.before args s = true) (hc : Cond.code y bytes maxL none ∈ tw) (hini : Cond.initialized y.cls ∈ tw) (hl : Cond.methodLinkNest own index y host ∈ tw) (hi : Cond.instanceMethod y ∈ tw) (hn : y.name = "<init>") (hrc : rm.cells = mc) (hrs : rm.slots = ms)
    (hd : y.cls ≠ "java/lang/invoke/MethodHandle" ∧ y.cls ≠ "java/lang/invoke/VarHandle" ∧ (parseMethodDescriptor y.desc).map (fun d => d.parameters.length) = some n) (hR : rm.frames + 1 ≤ R.frames ∧ 8 + (maxL + 11) + rm.locals ≤ R.locals) :
    va_CN R s args own index y host bytes maxL none (Cond.code y bytes maxL none :: tw) rm mc ms n ∧ y.name = "<init>" ∧ (Cond.instanceMethod y).before args s = true := ⟨tcN n ht hc hini hl hrc hrs hd hR, hn, ht _ hi⟩
/-- an interface's method, met in the class C -/
theorem tcF (n : Nat) (ht : ∀ w ∈ tw, w.before args s = true) (hc : Cond.code y bytes maxL ret ∈ tw) (hini : Cond.initialized y.cls ∈ tw) (hl : Cond.methodLink own index x ∈ tw) (hi : Cond.instanceMethod y ∈ tw) (hs : Cond.selects C x y ∈ tw)
    (h1 : Cond.declares x ∈ tw) (h2 : Cond.interfaceMethod x.cls x.cls x.name x.desc ∈ tw) (h3 : Cond.publicMethod y ∈ tw) (h4 : Cond.unhidden C x.name x.desc ∈ tw) (h5 : Cond.castable C x.cls ∈ tw) (hrc : rm.cells = mc) (hrs : rm.slots = ms)
    (hd : x.cls ≠ "java/lang/invoke/MethodHandle" ∧ x.cls ≠ "java/lang/invoke/VarHandle" ∧ (parseMethodDescriptor x.desc).map (fun d => d.parameters.length) = some n) (hR : rm.frames + 1 ≤ R.frames ∧ 8 + (maxL + 11) + rm.locals ≤ R.locals) :
    va_CI R s args own C index x y bytes maxL ret (Cond.code y bytes maxL ret :: tw) rm mc ms n :=
  ⟨⟨hrc, hrs, hR.1, hR.2, tw_pay ht hc, List.mem_cons_self⟩, ht _ hl, ht _ h1, ht _ h2, ht _ hs, ht _ hi, ht _ h3, ht _ h4, ht _ h5, ht _ hini, ht _ hc, ⟨hd.1, hd.2.1⟩, tc_len hd.2.2⟩
/-- a static method with a table of its own -/
theorem tcSW (n : Nat) (ht : ∀ w ∈ tw, w.before args s = true) (hc : Cond.codeWith y bytes maxL ret hh ∈ tw) (hini : Cond.initialized y.cls ∈ tw) (hl : Cond.methodLink own index y ∈ tw) (hs : Cond.static y ∈ tw) (hrc : rm.cells = mc) (hrs : rm.slots = ms)
    (hd : y.cls ≠ "java/lang/invoke/MethodHandle" ∧ y.cls ≠ "java/lang/invoke/VarHandle" ∧ (parseMethodDescriptor y.desc).map (fun d => d.parameters.length) = some n) (hR : rm.frames + 1 ≤ R.frames ∧ 8 + (maxL + 11) + rm.locals ≤ R.locals) :
    vx_CSW R s args own index y bytes maxL ret hh (Cond.codeWith y bytes maxL ret hh :: tw) rm mc ms n :=
  ⟨⟨hrc, hrs, hR.1, hR.2, tw_pay ht hc, List.mem_cons_self⟩, ht _ hc, ht _ hini, ⟨hd.1, hd.2.1⟩, tc_len hd.2.2, ht _ hl, ht _ hs⟩
end TC
end
section
def RX0 : String := "NightfallVillage$Claims"
def TX0 : u_T := fun k => match k with
  | 0 => ("NightfallVillage$Claims", "claimers", "[I", true)
  | 1 => ("NightfallVillage$Claims", "subjects", "[I", true)
  | 2 => ("NightfallVillage$Claims", "sides", "[C", true)
  | _ => ("NightfallVillage$Claims", "count", "I", false)
def tyX0 : Nat → FieldType := fun k => match k with
  | 0 => .array .int
  | 1 => .array .int
  | 2 => .array .char
  | _ => .int
theorem nmX0 : ∀ a, a < 4 → ∀ b, b < 4 → a ≠ b → (TX0 a).2.1 ≠ (TX0 b).2.1 := by decide +kernel
theorem tyX0_ok : ∀ k, k < 4 → parseFieldDescriptor (TX0 k).2.2.1 = some (tyX0 k) := by decide +kernel
theorem q_282 : (Cond.laysFinal "NightfallVillage$Claims" "NightfallVillage$Claims" "claimers" "[I") ∈ tw := tw_in (i := 282) (by decide +kernel) (by decide +kernel)
theorem q_284 : (Cond.laysFinal "NightfallVillage$Claims" "NightfallVillage$Claims" "subjects" "[I") ∈ tw := tw_in (i := 284) (by decide +kernel) (by decide +kernel)
theorem q_286 : (Cond.laysFinal "NightfallVillage$Claims" "NightfallVillage$Claims" "sides" "[C") ∈ tw := tw_in (i := 286) (by decide +kernel) (by decide +kernel)
theorem q_288 : (Cond.lays "NightfallVillage$Claims" "NightfallVillage$Claims" "count" "I") ∈ tw := tw_in (i := 288) (by decide +kernel) (by decide +kernel)
theorem i_X0 : ∀ w ∈ u_ws RX0 TX0 4, w ∈ tw := by
  have e : u_ws RX0 TX0 4 = [Cond.laysFinal "NightfallVillage$Claims" "NightfallVillage$Claims" "claimers" "[I", Cond.laysFinal "NightfallVillage$Claims" "NightfallVillage$Claims" "subjects" "[I", Cond.laysFinal "NightfallVillage$Claims" "NightfallVillage$Claims" "sides" "[C", Cond.lays "NightfallVillage$Claims" "NightfallVillage$Claims" "count" "I"] := by decide +kernel
  rw [e]
  exact List.forall_mem_cons.mpr ⟨q_282, List.forall_mem_cons.mpr ⟨q_284, List.forall_mem_cons.mpr ⟨q_286, List.forall_mem_cons.mpr ⟨q_288, fun _ h => absurd h List.not_mem_nil⟩⟩⟩⟩
def RX1 : String := "NightfallVillage$Day"
def TX1 : u_T := fun k => match k with
  | 0 => ("NightfallVillage$Day", "ballots", "[I", true)
  | _ => ("NightfallVillage$Day", "ghostDays", "[I", true)
def tyX1 : Nat → FieldType := fun k => match k with
  | 0 => .array .int
  | _ => .array .int
theorem nmX1 : ∀ a, a < 2 → ∀ b, b < 2 → a ≠ b → (TX1 a).2.1 ≠ (TX1 b).2.1 := by decide +kernel
theorem tyX1_ok : ∀ k, k < 2 → parseFieldDescriptor (TX1 k).2.2.1 = some (tyX1 k) := by decide +kernel
theorem q_203 : (Cond.laysFinal "NightfallVillage$Day" "NightfallVillage$Day" "ballots" "[I") ∈ tw := tw_in (i := 203) (by decide +kernel) (by decide +kernel)
theorem q_205 : (Cond.laysFinal "NightfallVillage$Day" "NightfallVillage$Day" "ghostDays" "[I") ∈ tw := tw_in (i := 205) (by decide +kernel) (by decide +kernel)
theorem i_X1 : ∀ w ∈ u_ws RX1 TX1 2, w ∈ tw := by
  have e : u_ws RX1 TX1 2 = [Cond.laysFinal "NightfallVillage$Day" "NightfallVillage$Day" "ballots" "[I", Cond.laysFinal "NightfallVillage$Day" "NightfallVillage$Day" "ghostDays" "[I"] := by decide +kernel
  rw [e]
  exact List.forall_mem_cons.mpr ⟨q_203, List.forall_mem_cons.mpr ⟨q_205, fun _ h => absurd h List.not_mem_nil⟩⟩
def RX2 : String := "NightfallVillage$Deal"
def TX2 : u_T := fun k => match k with
  | 0 => ("NightfallVillage$Deal", "dealtRoles", "[I", true)
  | 1 => ("NightfallVillage$Deal", "forebears", "[I", true)
  | 2 => ("NightfallVillage$Deal", "marks", "[I", true)
  | 3 => ("NightfallVillage$Deal", "seats", "I", false)
  | 4 => ("NightfallVillage$Deal", "lover", "I", false)
  | _ => ("NightfallVillage$Deal", "otherLover", "I", false)
def tyX2 : Nat → FieldType := fun k => match k with
  | 0 => .array .int
  | 1 => .array .int
  | 2 => .array .int
  | 3 => .int
  | 4 => .int
  | _ => .int
theorem nmX2 : ∀ a, a < 6 → ∀ b, b < 6 → a ≠ b → (TX2 a).2.1 ≠ (TX2 b).2.1 := by decide +kernel
theorem tyX2_ok : ∀ k, k < 6 → parseFieldDescriptor (TX2 k).2.2.1 = some (tyX2 k) := by decide +kernel
theorem q_98 : (Cond.laysFinal "NightfallVillage$Deal" "NightfallVillage$Deal" "dealtRoles" "[I") ∈ tw := tw_in (i := 98) (by decide +kernel) (by decide +kernel)
theorem q_100 : (Cond.laysFinal "NightfallVillage$Deal" "NightfallVillage$Deal" "forebears" "[I") ∈ tw := tw_in (i := 100) (by decide +kernel) (by decide +kernel)
theorem q_102 : (Cond.laysFinal "NightfallVillage$Deal" "NightfallVillage$Deal" "marks" "[I") ∈ tw := tw_in (i := 102) (by decide +kernel) (by decide +kernel)
theorem q_104 : (Cond.lays "NightfallVillage$Deal" "NightfallVillage$Deal" "seats" "I") ∈ tw := tw_in (i := 104) (by decide +kernel) (by decide +kernel)
theorem q_106 : (Cond.lays "NightfallVillage$Deal" "NightfallVillage$Deal" "lover" "I") ∈ tw := tw_in (i := 106) (by decide +kernel) (by decide +kernel)
theorem q_108 : (Cond.lays "NightfallVillage$Deal" "NightfallVillage$Deal" "otherLover" "I") ∈ tw := tw_in (i := 108) (by decide +kernel) (by decide +kernel)
theorem i_X2 : ∀ w ∈ u_ws RX2 TX2 6, w ∈ tw := by
  have e : u_ws RX2 TX2 6 = [Cond.laysFinal "NightfallVillage$Deal" "NightfallVillage$Deal" "dealtRoles" "[I", Cond.laysFinal "NightfallVillage$Deal" "NightfallVillage$Deal" "forebears" "[I", Cond.laysFinal "NightfallVillage$Deal" "NightfallVillage$Deal" "marks" "[I", Cond.lays "NightfallVillage$Deal" "NightfallVillage$Deal" "seats" "I", Cond.lays "NightfallVillage$Deal" "NightfallVillage$Deal" "lover" "I", Cond.lays "NightfallVillage$Deal" "NightfallVillage$Deal" "otherLover" "I"] := by decide +kernel
  rw [e]
  exact List.forall_mem_cons.mpr ⟨q_98, List.forall_mem_cons.mpr ⟨q_100, List.forall_mem_cons.mpr ⟨q_102, List.forall_mem_cons.mpr ⟨q_104, List.forall_mem_cons.mpr ⟨q_106, List.forall_mem_cons.mpr ⟨q_108, fun _ h => absurd h List.not_mem_nil⟩⟩⟩⟩⟩⟩
def RX3 : String := "NightfallVillage$Folk"
def TX3 : u_T := fun k => match k with
  | 0 => ("NightfallVillage$Folk", "roles", "LNightfallVillage$Roles;", true)
  | 1 => ("NightfallVillage$Folk", "deal", "LNightfallVillage$Deal;", true)
  | 2 => ("NightfallVillage$Folk", "held", "[I", true)
  | 3 => ("NightfallVillage$Folk", "usedUp", "[Z", true)
  | 4 => ("NightfallVillage$Folk", "causes", "[C", true)
  | 5 => ("NightfallVillage$Folk", "marks", "[I", true)
  | 6 => ("NightfallVillage$Folk", "dying", "[I", true)
  | 7 => ("NightfallVillage$Folk", "dyingCount", "I", false)
  | _ => ("NightfallVillage$Folk", "hasInherited", "Z", false)
def tyX3 : Nat → FieldType := fun k => match k with
  | 0 => .object "NightfallVillage$Roles"
  | 1 => .object "NightfallVillage$Deal"
  | 2 => .array .int
  | 3 => .array .boolean
  | 4 => .array .char
  | 5 => .array .int
  | 6 => .array .int
  | 7 => .int
  | _ => .boolean
theorem nmX3 : ∀ a, a < 9 → ∀ b, b < 9 → a ≠ b → (TX3 a).2.1 ≠ (TX3 b).2.1 := by decide +kernel
theorem tyX3_ok : ∀ k, k < 9 → parseFieldDescriptor (TX3 k).2.2.1 = some (tyX3 k) := by decide +kernel
theorem q_134 : (Cond.laysFinal "NightfallVillage$Folk" "NightfallVillage$Folk" "roles" "LNightfallVillage$Roles;") ∈ tw := tw_in (i := 134) (by decide +kernel) (by decide +kernel)
theorem q_136 : (Cond.laysFinal "NightfallVillage$Folk" "NightfallVillage$Folk" "deal" "LNightfallVillage$Deal;") ∈ tw := tw_in (i := 136) (by decide +kernel) (by decide +kernel)
theorem q_138 : (Cond.laysFinal "NightfallVillage$Folk" "NightfallVillage$Folk" "held" "[I") ∈ tw := tw_in (i := 138) (by decide +kernel) (by decide +kernel)
theorem q_140 : (Cond.laysFinal "NightfallVillage$Folk" "NightfallVillage$Folk" "usedUp" "[Z") ∈ tw := tw_in (i := 140) (by decide +kernel) (by decide +kernel)
theorem q_142 : (Cond.laysFinal "NightfallVillage$Folk" "NightfallVillage$Folk" "causes" "[C") ∈ tw := tw_in (i := 142) (by decide +kernel) (by decide +kernel)
theorem q_144 : (Cond.laysFinal "NightfallVillage$Folk" "NightfallVillage$Folk" "marks" "[I") ∈ tw := tw_in (i := 144) (by decide +kernel) (by decide +kernel)
theorem q_146 : (Cond.laysFinal "NightfallVillage$Folk" "NightfallVillage$Folk" "dying" "[I") ∈ tw := tw_in (i := 146) (by decide +kernel) (by decide +kernel)
theorem q_148 : (Cond.lays "NightfallVillage$Folk" "NightfallVillage$Folk" "dyingCount" "I") ∈ tw := tw_in (i := 148) (by decide +kernel) (by decide +kernel)
theorem q_150 : (Cond.lays "NightfallVillage$Folk" "NightfallVillage$Folk" "hasInherited" "Z") ∈ tw := tw_in (i := 150) (by decide +kernel) (by decide +kernel)
theorem i_X3 : ∀ w ∈ u_ws RX3 TX3 9, w ∈ tw := by
  have e : u_ws RX3 TX3 9 = [Cond.laysFinal "NightfallVillage$Folk" "NightfallVillage$Folk" "roles" "LNightfallVillage$Roles;", Cond.laysFinal "NightfallVillage$Folk" "NightfallVillage$Folk" "deal" "LNightfallVillage$Deal;", Cond.laysFinal "NightfallVillage$Folk" "NightfallVillage$Folk" "held" "[I", Cond.laysFinal "NightfallVillage$Folk" "NightfallVillage$Folk" "usedUp" "[Z", Cond.laysFinal "NightfallVillage$Folk" "NightfallVillage$Folk" "causes" "[C", Cond.laysFinal "NightfallVillage$Folk" "NightfallVillage$Folk" "marks" "[I", Cond.laysFinal "NightfallVillage$Folk" "NightfallVillage$Folk" "dying" "[I", Cond.lays "NightfallVillage$Folk" "NightfallVillage$Folk" "dyingCount" "I", Cond.lays "NightfallVillage$Folk" "NightfallVillage$Folk" "hasInherited" "Z"] := by decide +kernel
  rw [e]
  exact List.forall_mem_cons.mpr ⟨q_134, List.forall_mem_cons.mpr ⟨q_136, List.forall_mem_cons.mpr ⟨q_138, List.forall_mem_cons.mpr ⟨q_140, List.forall_mem_cons.mpr ⟨q_142, List.forall_mem_cons.mpr ⟨q_144, List.forall_mem_cons.mpr ⟨q_146, List.forall_mem_cons.mpr ⟨q_148, List.forall_mem_cons.mpr ⟨q_150, fun _ h => absurd h List.not_mem_nil⟩⟩⟩⟩⟩⟩⟩⟩⟩
def RX4 : String := "NightfallVillage$Game"
def TX4 : u_T := fun k => match k with
  | 0 => ("NightfallVillage$Game", "folk", "LNightfallVillage$Folk;", true)
  | 1 => ("NightfallVillage$Game", "night", "LNightfallVillage$Night;", true)
  | 2 => ("NightfallVillage$Game", "day", "LNightfallVillage$Day;", true)
  | 3 => ("NightfallVillage$Game", "hasBegun", "Z", false)
  | 4 => ("NightfallVillage$Game", "isNight", "Z", false)
  | 5 => ("NightfallVillage$Game", "number", "I", false)
  | _ => ("NightfallVillage$Game", "outcome", "C", false)
def tyX4 : Nat → FieldType := fun k => match k with
  | 0 => .object "NightfallVillage$Folk"
  | 1 => .object "NightfallVillage$Night"
  | 2 => .object "NightfallVillage$Day"
  | 3 => .boolean
  | 4 => .boolean
  | 5 => .int
  | _ => .char
theorem nmX4 : ∀ a, a < 7 → ∀ b, b < 7 → a ≠ b → (TX4 a).2.1 ≠ (TX4 b).2.1 := by decide +kernel
theorem tyX4_ok : ∀ k, k < 7 → parseFieldDescriptor (TX4 k).2.2.1 = some (tyX4 k) := by decide +kernel
theorem q_222 : (Cond.laysFinal "NightfallVillage$Game" "NightfallVillage$Game" "folk" "LNightfallVillage$Folk;") ∈ tw := tw_in (i := 222) (by decide +kernel) (by decide +kernel)
theorem q_224 : (Cond.laysFinal "NightfallVillage$Game" "NightfallVillage$Game" "night" "LNightfallVillage$Night;") ∈ tw := tw_in (i := 224) (by decide +kernel) (by decide +kernel)
theorem q_226 : (Cond.laysFinal "NightfallVillage$Game" "NightfallVillage$Game" "day" "LNightfallVillage$Day;") ∈ tw := tw_in (i := 226) (by decide +kernel) (by decide +kernel)
theorem q_228 : (Cond.lays "NightfallVillage$Game" "NightfallVillage$Game" "hasBegun" "Z") ∈ tw := tw_in (i := 228) (by decide +kernel) (by decide +kernel)
theorem q_230 : (Cond.lays "NightfallVillage$Game" "NightfallVillage$Game" "isNight" "Z") ∈ tw := tw_in (i := 230) (by decide +kernel) (by decide +kernel)
theorem q_232 : (Cond.lays "NightfallVillage$Game" "NightfallVillage$Game" "number" "I") ∈ tw := tw_in (i := 232) (by decide +kernel) (by decide +kernel)
theorem q_234 : (Cond.lays "NightfallVillage$Game" "NightfallVillage$Game" "outcome" "C") ∈ tw := tw_in (i := 234) (by decide +kernel) (by decide +kernel)
theorem i_X4 : ∀ w ∈ u_ws RX4 TX4 7, w ∈ tw := by
  have e : u_ws RX4 TX4 7 = [Cond.laysFinal "NightfallVillage$Game" "NightfallVillage$Game" "folk" "LNightfallVillage$Folk;", Cond.laysFinal "NightfallVillage$Game" "NightfallVillage$Game" "night" "LNightfallVillage$Night;", Cond.laysFinal "NightfallVillage$Game" "NightfallVillage$Game" "day" "LNightfallVillage$Day;", Cond.lays "NightfallVillage$Game" "NightfallVillage$Game" "hasBegun" "Z", Cond.lays "NightfallVillage$Game" "NightfallVillage$Game" "isNight" "Z", Cond.lays "NightfallVillage$Game" "NightfallVillage$Game" "number" "I", Cond.lays "NightfallVillage$Game" "NightfallVillage$Game" "outcome" "C"] := by decide +kernel
  rw [e]
  exact List.forall_mem_cons.mpr ⟨q_222, List.forall_mem_cons.mpr ⟨q_224, List.forall_mem_cons.mpr ⟨q_226, List.forall_mem_cons.mpr ⟨q_228, List.forall_mem_cons.mpr ⟨q_230, List.forall_mem_cons.mpr ⟨q_232, List.forall_mem_cons.mpr ⟨q_234, fun _ h => absurd h List.not_mem_nil⟩⟩⟩⟩⟩⟩⟩
def RX5 : String := "NightfallVillage$History"
def TX5 : u_T := fun k => match k with
  | 0 => ("NightfallVillage$History", "entries", "[I", true)
  | _ => ("NightfallVillage$History", "length", "I", false)
def tyX5 : Nat → FieldType := fun k => match k with
  | 0 => .array .int
  | _ => .int
theorem nmX5 : ∀ a, a < 2 → ∀ b, b < 2 → a ≠ b → (TX5 a).2.1 ≠ (TX5 b).2.1 := by decide +kernel
theorem tyX5_ok : ∀ k, k < 2 → parseFieldDescriptor (TX5 k).2.2.1 = some (tyX5 k) := by decide +kernel
theorem q_246 : (Cond.laysFinal "NightfallVillage$History" "NightfallVillage$History" "entries" "[I") ∈ tw := tw_in (i := 246) (by decide +kernel) (by decide +kernel)
theorem q_248 : (Cond.lays "NightfallVillage$History" "NightfallVillage$History" "length" "I") ∈ tw := tw_in (i := 248) (by decide +kernel) (by decide +kernel)
theorem i_X5 : ∀ w ∈ u_ws RX5 TX5 2, w ∈ tw := by
  have e : u_ws RX5 TX5 2 = [Cond.laysFinal "NightfallVillage$History" "NightfallVillage$History" "entries" "[I", Cond.lays "NightfallVillage$History" "NightfallVillage$History" "length" "I"] := by decide +kernel
  rw [e]
  exact List.forall_mem_cons.mpr ⟨q_246, List.forall_mem_cons.mpr ⟨q_248, fun _ h => absurd h List.not_mem_nil⟩⟩
def RX6 : String := "NightfallVillage$Night"
def TX6 : u_T := fun k => match k with
  | 0 => ("NightfallVillage$Night", "targets", "[I", true)
  | 1 => ("NightfallVillage$Night", "aims", "[I", true)
  | 2 => ("NightfallVillage$Night", "acts", "[C", true)
  | 3 => ("NightfallVillage$Night", "blocks", "[I", true)
  | 4 => ("NightfallVillage$Night", "blocked", "[Z", true)
  | 5 => ("NightfallVillage$Night", "drunk", "[Z", true)
  | 6 => ("NightfallVillage$Night", "guarded", "[Z", true)
  | 7 => ("NightfallVillage$Night", "attacked", "[Z", true)
  | 8 => ("NightfallVillage$Night", "silenced", "[Z", true)
  | 9 => ("NightfallVillage$Night", "done", "[Z", true)
  | _ => ("NightfallVillage$Night", "tellings", "[C", true)
def tyX6 : Nat → FieldType := fun k => match k with
  | 0 => .array .int
  | 1 => .array .int
  | 2 => .array .char
  | 3 => .array .int
  | 4 => .array .boolean
  | 5 => .array .boolean
  | 6 => .array .boolean
  | 7 => .array .boolean
  | 8 => .array .boolean
  | 9 => .array .boolean
  | _ => .array .char
theorem nmX6 : ∀ a, a < 11 → ∀ b, b < 11 → a ≠ b → (TX6 a).2.1 ≠ (TX6 b).2.1 := by decide +kernel
theorem tyX6_ok : ∀ k, k < 11 → parseFieldDescriptor (TX6 k).2.2.1 = some (tyX6 k) := by decide +kernel
theorem q_172 : (Cond.laysFinal "NightfallVillage$Night" "NightfallVillage$Night" "targets" "[I") ∈ tw := tw_in (i := 172) (by decide +kernel) (by decide +kernel)
theorem q_174 : (Cond.laysFinal "NightfallVillage$Night" "NightfallVillage$Night" "aims" "[I") ∈ tw := tw_in (i := 174) (by decide +kernel) (by decide +kernel)
theorem q_176 : (Cond.laysFinal "NightfallVillage$Night" "NightfallVillage$Night" "acts" "[C") ∈ tw := tw_in (i := 176) (by decide +kernel) (by decide +kernel)
theorem q_178 : (Cond.laysFinal "NightfallVillage$Night" "NightfallVillage$Night" "blocks" "[I") ∈ tw := tw_in (i := 178) (by decide +kernel) (by decide +kernel)
theorem q_180 : (Cond.laysFinal "NightfallVillage$Night" "NightfallVillage$Night" "blocked" "[Z") ∈ tw := tw_in (i := 180) (by decide +kernel) (by decide +kernel)
theorem q_182 : (Cond.laysFinal "NightfallVillage$Night" "NightfallVillage$Night" "drunk" "[Z") ∈ tw := tw_in (i := 182) (by decide +kernel) (by decide +kernel)
theorem q_184 : (Cond.laysFinal "NightfallVillage$Night" "NightfallVillage$Night" "guarded" "[Z") ∈ tw := tw_in (i := 184) (by decide +kernel) (by decide +kernel)
theorem q_186 : (Cond.laysFinal "NightfallVillage$Night" "NightfallVillage$Night" "attacked" "[Z") ∈ tw := tw_in (i := 186) (by decide +kernel) (by decide +kernel)
theorem q_188 : (Cond.laysFinal "NightfallVillage$Night" "NightfallVillage$Night" "silenced" "[Z") ∈ tw := tw_in (i := 188) (by decide +kernel) (by decide +kernel)
theorem q_190 : (Cond.laysFinal "NightfallVillage$Night" "NightfallVillage$Night" "done" "[Z") ∈ tw := tw_in (i := 190) (by decide +kernel) (by decide +kernel)
theorem q_192 : (Cond.laysFinal "NightfallVillage$Night" "NightfallVillage$Night" "tellings" "[C") ∈ tw := tw_in (i := 192) (by decide +kernel) (by decide +kernel)
theorem i_X6 : ∀ w ∈ u_ws RX6 TX6 11, w ∈ tw := by
  have e : u_ws RX6 TX6 11 = [Cond.laysFinal "NightfallVillage$Night" "NightfallVillage$Night" "targets" "[I", Cond.laysFinal "NightfallVillage$Night" "NightfallVillage$Night" "aims" "[I", Cond.laysFinal "NightfallVillage$Night" "NightfallVillage$Night" "acts" "[C", Cond.laysFinal "NightfallVillage$Night" "NightfallVillage$Night" "blocks" "[I", Cond.laysFinal "NightfallVillage$Night" "NightfallVillage$Night" "blocked" "[Z", Cond.laysFinal "NightfallVillage$Night" "NightfallVillage$Night" "drunk" "[Z", Cond.laysFinal "NightfallVillage$Night" "NightfallVillage$Night" "guarded" "[Z", Cond.laysFinal "NightfallVillage$Night" "NightfallVillage$Night" "attacked" "[Z", Cond.laysFinal "NightfallVillage$Night" "NightfallVillage$Night" "silenced" "[Z", Cond.laysFinal "NightfallVillage$Night" "NightfallVillage$Night" "done" "[Z", Cond.laysFinal "NightfallVillage$Night" "NightfallVillage$Night" "tellings" "[C"] := by decide +kernel
  rw [e]
  exact List.forall_mem_cons.mpr ⟨q_172, List.forall_mem_cons.mpr ⟨q_174, List.forall_mem_cons.mpr ⟨q_176, List.forall_mem_cons.mpr ⟨q_178, List.forall_mem_cons.mpr ⟨q_180, List.forall_mem_cons.mpr ⟨q_182, List.forall_mem_cons.mpr ⟨q_184, List.forall_mem_cons.mpr ⟨q_186, List.forall_mem_cons.mpr ⟨q_188, List.forall_mem_cons.mpr ⟨q_190, List.forall_mem_cons.mpr ⟨q_192, fun _ h => absurd h List.not_mem_nil⟩⟩⟩⟩⟩⟩⟩⟩⟩⟩⟩
def RX7 : String := "NightfallVillage$Roles"
def TX7 : u_T := fun k => match k with
  | 0 => ("NightfallVillage$Roles", "sides", "[C", true)
  | 1 => ("NightfallVillage$Roles", "acts", "[C", true)
  | 2 => ("NightfallVillage$Roles", "weights", "[I", true)
  | 3 => ("NightfallVillage$Roles", "once", "[Z", true)
  | 4 => ("NightfallVillage$Roles", "fools", "[Z", true)
  | 5 => ("NightfallVillage$Roles", "hunters", "[Z", true)
  | 6 => ("NightfallVillage$Roles", "looks", "[I", true)
  | _ => ("NightfallVillage$Roles", "count", "I", false)
def tyX7 : Nat → FieldType := fun k => match k with
  | 0 => .array .char
  | 1 => .array .char
  | 2 => .array .int
  | 3 => .array .boolean
  | 4 => .array .boolean
  | 5 => .array .boolean
  | 6 => .array .int
  | _ => .int
theorem nmX7 : ∀ a, a < 8 → ∀ b, b < 8 → a ≠ b → (TX7 a).2.1 ≠ (TX7 b).2.1 := by decide +kernel
theorem tyX7_ok : ∀ k, k < 8 → parseFieldDescriptor (TX7 k).2.2.1 = some (tyX7 k) := by decide +kernel
theorem q_63 : (Cond.laysFinal "NightfallVillage$Roles" "NightfallVillage$Roles" "sides" "[C") ∈ tw := tw_in (i := 63) (by decide +kernel) (by decide +kernel)
theorem q_65 : (Cond.laysFinal "NightfallVillage$Roles" "NightfallVillage$Roles" "acts" "[C") ∈ tw := tw_in (i := 65) (by decide +kernel) (by decide +kernel)
theorem q_67 : (Cond.laysFinal "NightfallVillage$Roles" "NightfallVillage$Roles" "weights" "[I") ∈ tw := tw_in (i := 67) (by decide +kernel) (by decide +kernel)
theorem q_69 : (Cond.laysFinal "NightfallVillage$Roles" "NightfallVillage$Roles" "once" "[Z") ∈ tw := tw_in (i := 69) (by decide +kernel) (by decide +kernel)
theorem q_71 : (Cond.laysFinal "NightfallVillage$Roles" "NightfallVillage$Roles" "fools" "[Z") ∈ tw := tw_in (i := 71) (by decide +kernel) (by decide +kernel)
theorem q_73 : (Cond.laysFinal "NightfallVillage$Roles" "NightfallVillage$Roles" "hunters" "[Z") ∈ tw := tw_in (i := 73) (by decide +kernel) (by decide +kernel)
theorem q_75 : (Cond.laysFinal "NightfallVillage$Roles" "NightfallVillage$Roles" "looks" "[I") ∈ tw := tw_in (i := 75) (by decide +kernel) (by decide +kernel)
theorem q_77 : (Cond.lays "NightfallVillage$Roles" "NightfallVillage$Roles" "count" "I") ∈ tw := tw_in (i := 77) (by decide +kernel) (by decide +kernel)
theorem i_X7 : ∀ w ∈ u_ws RX7 TX7 8, w ∈ tw := by
  have e : u_ws RX7 TX7 8 = [Cond.laysFinal "NightfallVillage$Roles" "NightfallVillage$Roles" "sides" "[C", Cond.laysFinal "NightfallVillage$Roles" "NightfallVillage$Roles" "acts" "[C", Cond.laysFinal "NightfallVillage$Roles" "NightfallVillage$Roles" "weights" "[I", Cond.laysFinal "NightfallVillage$Roles" "NightfallVillage$Roles" "once" "[Z", Cond.laysFinal "NightfallVillage$Roles" "NightfallVillage$Roles" "fools" "[Z", Cond.laysFinal "NightfallVillage$Roles" "NightfallVillage$Roles" "hunters" "[Z", Cond.laysFinal "NightfallVillage$Roles" "NightfallVillage$Roles" "looks" "[I", Cond.lays "NightfallVillage$Roles" "NightfallVillage$Roles" "count" "I"] := by decide +kernel
  rw [e]
  exact List.forall_mem_cons.mpr ⟨q_63, List.forall_mem_cons.mpr ⟨q_65, List.forall_mem_cons.mpr ⟨q_67, List.forall_mem_cons.mpr ⟨q_69, List.forall_mem_cons.mpr ⟨q_71, List.forall_mem_cons.mpr ⟨q_73, List.forall_mem_cons.mpr ⟨q_75, List.forall_mem_cons.mpr ⟨q_77, fun _ h => absurd h List.not_mem_nil⟩⟩⟩⟩⟩⟩⟩⟩
def RX8 : String := "NightfallVillage$Sights"
def TX8 : u_T := fun k => match k with
  | 0 => ("NightfallVillage$Sights", "tellings", "[C", true)
  | 1 => ("NightfallVillage$Sights", "shown", "[I", true)
  | 2 => ("NightfallVillage$Sights", "livingAsTold", "[I", true)
  | _ => ("NightfallVillage$Sights", "nights", "I", false)
def tyX8 : Nat → FieldType := fun k => match k with
  | 0 => .array .char
  | 1 => .array .int
  | 2 => .array .int
  | _ => .int
theorem nmX8 : ∀ a, a < 4 → ∀ b, b < 4 → a ≠ b → (TX8 a).2.1 ≠ (TX8 b).2.1 := by decide +kernel
theorem tyX8_ok : ∀ k, k < 4 → parseFieldDescriptor (TX8 k).2.2.1 = some (tyX8 k) := by decide +kernel
theorem q_262 : (Cond.laysFinal "NightfallVillage$Sights" "NightfallVillage$Sights" "tellings" "[C") ∈ tw := tw_in (i := 262) (by decide +kernel) (by decide +kernel)
theorem q_264 : (Cond.laysFinal "NightfallVillage$Sights" "NightfallVillage$Sights" "shown" "[I") ∈ tw := tw_in (i := 264) (by decide +kernel) (by decide +kernel)
theorem q_266 : (Cond.laysFinal "NightfallVillage$Sights" "NightfallVillage$Sights" "livingAsTold" "[I") ∈ tw := tw_in (i := 266) (by decide +kernel) (by decide +kernel)
theorem q_268 : (Cond.lays "NightfallVillage$Sights" "NightfallVillage$Sights" "nights" "I") ∈ tw := tw_in (i := 268) (by decide +kernel) (by decide +kernel)
theorem i_X8 : ∀ w ∈ u_ws RX8 TX8 4, w ∈ tw := by
  have e : u_ws RX8 TX8 4 = [Cond.laysFinal "NightfallVillage$Sights" "NightfallVillage$Sights" "tellings" "[C", Cond.laysFinal "NightfallVillage$Sights" "NightfallVillage$Sights" "shown" "[I", Cond.laysFinal "NightfallVillage$Sights" "NightfallVillage$Sights" "livingAsTold" "[I", Cond.lays "NightfallVillage$Sights" "NightfallVillage$Sights" "nights" "I"] := by decide +kernel
  rw [e]
  exact List.forall_mem_cons.mpr ⟨q_262, List.forall_mem_cons.mpr ⟨q_264, List.forall_mem_cons.mpr ⟨q_266, List.forall_mem_cons.mpr ⟨q_268, fun _ h => absurd h List.not_mem_nil⟩⟩⟩⟩
def RX9 : String := "NightfallVillage$Worlds"
def TX9 : u_T := fun k => match k with
  | 0 => ("NightfallVillage$Worlds", "roles", "LNightfallVillage$Roles;", true)
  | 1 => ("NightfallVillage$Worlds", "deal", "LNightfallVillage$Deal;", true)
  | 2 => ("NightfallVillage$Worlds", "folk", "LNightfallVillage$Folk;", true)
  | 3 => ("NightfallVillage$Worlds", "sights", "LNightfallVillage$Sights;", true)
  | 4 => ("NightfallVillage$Worlds", "world", "[I", true)
  | 5 => ("NightfallVillage$Worlds", "left", "[I", true)
  | 6 => ("NightfallVillage$Worlds", "tallies", "[I", true)
  | 7 => ("NightfallVillage$Worlds", "knower", "I", false)
  | _ => ("NightfallVillage$Worlds", "total", "I", false)
def tyX9 : Nat → FieldType := fun k => match k with
  | 0 => .object "NightfallVillage$Roles"
  | 1 => .object "NightfallVillage$Deal"
  | 2 => .object "NightfallVillage$Folk"
  | 3 => .object "NightfallVillage$Sights"
  | 4 => .array .int
  | 5 => .array .int
  | 6 => .array .int
  | 7 => .int
  | _ => .int
theorem nmX9 : ∀ a, a < 9 → ∀ b, b < 9 → a ≠ b → (TX9 a).2.1 ≠ (TX9 b).2.1 := by decide +kernel
theorem tyX9_ok : ∀ k, k < 9 → parseFieldDescriptor (TX9 k).2.2.1 = some (tyX9 k) := by decide +kernel
theorem q_307 : (Cond.laysFinal "NightfallVillage$Worlds" "NightfallVillage$Worlds" "roles" "LNightfallVillage$Roles;") ∈ tw := tw_in (i := 307) (by decide +kernel) (by decide +kernel)
theorem q_309 : (Cond.laysFinal "NightfallVillage$Worlds" "NightfallVillage$Worlds" "deal" "LNightfallVillage$Deal;") ∈ tw := tw_in (i := 309) (by decide +kernel) (by decide +kernel)
theorem q_311 : (Cond.laysFinal "NightfallVillage$Worlds" "NightfallVillage$Worlds" "folk" "LNightfallVillage$Folk;") ∈ tw := tw_in (i := 311) (by decide +kernel) (by decide +kernel)
theorem q_313 : (Cond.laysFinal "NightfallVillage$Worlds" "NightfallVillage$Worlds" "sights" "LNightfallVillage$Sights;") ∈ tw := tw_in (i := 313) (by decide +kernel) (by decide +kernel)
theorem q_315 : (Cond.laysFinal "NightfallVillage$Worlds" "NightfallVillage$Worlds" "world" "[I") ∈ tw := tw_in (i := 315) (by decide +kernel) (by decide +kernel)
theorem q_317 : (Cond.laysFinal "NightfallVillage$Worlds" "NightfallVillage$Worlds" "left" "[I") ∈ tw := tw_in (i := 317) (by decide +kernel) (by decide +kernel)
theorem q_319 : (Cond.laysFinal "NightfallVillage$Worlds" "NightfallVillage$Worlds" "tallies" "[I") ∈ tw := tw_in (i := 319) (by decide +kernel) (by decide +kernel)
theorem q_321 : (Cond.lays "NightfallVillage$Worlds" "NightfallVillage$Worlds" "knower" "I") ∈ tw := tw_in (i := 321) (by decide +kernel) (by decide +kernel)
theorem q_323 : (Cond.lays "NightfallVillage$Worlds" "NightfallVillage$Worlds" "total" "I") ∈ tw := tw_in (i := 323) (by decide +kernel) (by decide +kernel)
theorem i_X9 : ∀ w ∈ u_ws RX9 TX9 9, w ∈ tw := by
  have e : u_ws RX9 TX9 9 = [Cond.laysFinal "NightfallVillage$Worlds" "NightfallVillage$Worlds" "roles" "LNightfallVillage$Roles;", Cond.laysFinal "NightfallVillage$Worlds" "NightfallVillage$Worlds" "deal" "LNightfallVillage$Deal;", Cond.laysFinal "NightfallVillage$Worlds" "NightfallVillage$Worlds" "folk" "LNightfallVillage$Folk;", Cond.laysFinal "NightfallVillage$Worlds" "NightfallVillage$Worlds" "sights" "LNightfallVillage$Sights;", Cond.laysFinal "NightfallVillage$Worlds" "NightfallVillage$Worlds" "world" "[I", Cond.laysFinal "NightfallVillage$Worlds" "NightfallVillage$Worlds" "left" "[I", Cond.laysFinal "NightfallVillage$Worlds" "NightfallVillage$Worlds" "tallies" "[I", Cond.lays "NightfallVillage$Worlds" "NightfallVillage$Worlds" "knower" "I", Cond.lays "NightfallVillage$Worlds" "NightfallVillage$Worlds" "total" "I"] := by decide +kernel
  rw [e]
  exact List.forall_mem_cons.mpr ⟨q_307, List.forall_mem_cons.mpr ⟨q_309, List.forall_mem_cons.mpr ⟨q_311, List.forall_mem_cons.mpr ⟨q_313, List.forall_mem_cons.mpr ⟨q_315, List.forall_mem_cons.mpr ⟨q_317, List.forall_mem_cons.mpr ⟨q_319, List.forall_mem_cons.mpr ⟨q_321, List.forall_mem_cons.mpr ⟨q_323, fun _ h => absurd h List.not_mem_nil⟩⟩⟩⟩⟩⟩⟩⟩⟩
def RX10 : String := "NightfallVillage"
def TX10 : u_T := fun k => match k with
  | 0 => ("NightfallVillage", "roles", "LNightfallVillage$Roles;", true)
  | 1 => ("NightfallVillage", "deal", "LNightfallVillage$Deal;", true)
  | 2 => ("NightfallVillage", "game", "LNightfallVillage$Game;", true)
  | 3 => ("NightfallVillage", "otherGame", "LNightfallVillage$Game;", true)
  | 4 => ("NightfallVillage", "history", "LNightfallVillage$History;", true)
  | 5 => ("NightfallVillage", "sights", "LNightfallVillage$Sights;", true)
  | 6 => ("NightfallVillage", "claims", "LNightfallVillage$Claims;", true)
  | _ => ("NightfallVillage", "fitting", "LNightfallVillage$Worlds;", true)
def tyX10 : Nat → FieldType := fun k => match k with
  | 0 => .object "NightfallVillage$Roles"
  | 1 => .object "NightfallVillage$Deal"
  | 2 => .object "NightfallVillage$Game"
  | 3 => .object "NightfallVillage$Game"
  | 4 => .object "NightfallVillage$History"
  | 5 => .object "NightfallVillage$Sights"
  | 6 => .object "NightfallVillage$Claims"
  | _ => .object "NightfallVillage$Worlds"
theorem nmX10 : ∀ a, a < 8 → ∀ b, b < 8 → a ≠ b → (TX10 a).2.1 ≠ (TX10 b).2.1 := by decide +kernel
theorem tyX10_ok : ∀ k, k < 8 → parseFieldDescriptor (TX10 k).2.2.1 = some (tyX10 k) := by decide +kernel
theorem q_334 : (Cond.laysFinal "NightfallVillage" "NightfallVillage" "roles" "LNightfallVillage$Roles;") ∈ tw := tw_in (i := 334) (by decide +kernel) (by decide +kernel)
theorem q_336 : (Cond.laysFinal "NightfallVillage" "NightfallVillage" "deal" "LNightfallVillage$Deal;") ∈ tw := tw_in (i := 336) (by decide +kernel) (by decide +kernel)
theorem q_338 : (Cond.laysFinal "NightfallVillage" "NightfallVillage" "game" "LNightfallVillage$Game;") ∈ tw := tw_in (i := 338) (by decide +kernel) (by decide +kernel)
theorem q_340 : (Cond.laysFinal "NightfallVillage" "NightfallVillage" "otherGame" "LNightfallVillage$Game;") ∈ tw := tw_in (i := 340) (by decide +kernel) (by decide +kernel)
theorem q_342 : (Cond.laysFinal "NightfallVillage" "NightfallVillage" "history" "LNightfallVillage$History;") ∈ tw := tw_in (i := 342) (by decide +kernel) (by decide +kernel)
theorem q_344 : (Cond.laysFinal "NightfallVillage" "NightfallVillage" "sights" "LNightfallVillage$Sights;") ∈ tw := tw_in (i := 344) (by decide +kernel) (by decide +kernel)
theorem q_346 : (Cond.laysFinal "NightfallVillage" "NightfallVillage" "claims" "LNightfallVillage$Claims;") ∈ tw := tw_in (i := 346) (by decide +kernel) (by decide +kernel)
theorem q_348 : (Cond.laysFinal "NightfallVillage" "NightfallVillage" "fitting" "LNightfallVillage$Worlds;") ∈ tw := tw_in (i := 348) (by decide +kernel) (by decide +kernel)
theorem i_X10 : ∀ w ∈ u_ws RX10 TX10 8, w ∈ tw := by
  have e : u_ws RX10 TX10 8 = [Cond.laysFinal "NightfallVillage" "NightfallVillage" "roles" "LNightfallVillage$Roles;", Cond.laysFinal "NightfallVillage" "NightfallVillage" "deal" "LNightfallVillage$Deal;", Cond.laysFinal "NightfallVillage" "NightfallVillage" "game" "LNightfallVillage$Game;", Cond.laysFinal "NightfallVillage" "NightfallVillage" "otherGame" "LNightfallVillage$Game;", Cond.laysFinal "NightfallVillage" "NightfallVillage" "history" "LNightfallVillage$History;", Cond.laysFinal "NightfallVillage" "NightfallVillage" "sights" "LNightfallVillage$Sights;", Cond.laysFinal "NightfallVillage" "NightfallVillage" "claims" "LNightfallVillage$Claims;", Cond.laysFinal "NightfallVillage" "NightfallVillage" "fitting" "LNightfallVillage$Worlds;"] := by decide +kernel
  rw [e]
  exact List.forall_mem_cons.mpr ⟨q_334, List.forall_mem_cons.mpr ⟨q_336, List.forall_mem_cons.mpr ⟨q_338, List.forall_mem_cons.mpr ⟨q_340, List.forall_mem_cons.mpr ⟨q_342, List.forall_mem_cons.mpr ⟨q_344, List.forall_mem_cons.mpr ⟨q_346, List.forall_mem_cons.mpr ⟨q_348, fun _ h => absurd h List.not_mem_nil⟩⟩⟩⟩⟩⟩⟩⟩
def RX11 : String := "NightfallVillageModel$Role"
def TX11 : u_T := fun k => match k with
  | 0 => ("NightfallVillageModel$Role", "side", "C", true)
  | 1 => ("NightfallVillageModel$Role", "act", "C", true)
  | 2 => ("NightfallVillageModel$Role", "weight", "I", true)
  | 3 => ("NightfallVillageModel$Role", "isOnce", "Z", true)
  | 4 => ("NightfallVillageModel$Role", "isFool", "Z", true)
  | 5 => ("NightfallVillageModel$Role", "isHunter", "Z", true)
  | _ => ("NightfallVillageModel$Role", "seems", "I", false)
def tyX11 : Nat → FieldType := fun k => match k with
  | 0 => .char
  | 1 => .char
  | 2 => .int
  | 3 => .boolean
  | 4 => .boolean
  | 5 => .boolean
  | _ => .int
theorem nmX11 : ∀ a, a < 7 → ∀ b, b < 7 → a ≠ b → (TX11 a).2.1 ≠ (TX11 b).2.1 := by decide +kernel
theorem tyX11_ok : ∀ k, k < 7 → parseFieldDescriptor (TX11 k).2.2.1 = some (tyX11 k) := by decide +kernel
theorem q_1509 : (Cond.laysFinal "NightfallVillageModel$Role" "NightfallVillageModel$Role" "side" "C") ∈ tw := tw_in (i := 1509) (by decide +kernel) (by decide +kernel)
theorem q_1511 : (Cond.laysFinal "NightfallVillageModel$Role" "NightfallVillageModel$Role" "act" "C") ∈ tw := tw_in (i := 1511) (by decide +kernel) (by decide +kernel)
theorem q_1513 : (Cond.laysFinal "NightfallVillageModel$Role" "NightfallVillageModel$Role" "weight" "I") ∈ tw := tw_in (i := 1513) (by decide +kernel) (by decide +kernel)
theorem q_1515 : (Cond.laysFinal "NightfallVillageModel$Role" "NightfallVillageModel$Role" "isOnce" "Z") ∈ tw := tw_in (i := 1515) (by decide +kernel) (by decide +kernel)
theorem q_1517 : (Cond.laysFinal "NightfallVillageModel$Role" "NightfallVillageModel$Role" "isFool" "Z") ∈ tw := tw_in (i := 1517) (by decide +kernel) (by decide +kernel)
theorem q_1519 : (Cond.laysFinal "NightfallVillageModel$Role" "NightfallVillageModel$Role" "isHunter" "Z") ∈ tw := tw_in (i := 1519) (by decide +kernel) (by decide +kernel)
theorem q_1521 : (Cond.lays "NightfallVillageModel$Role" "NightfallVillageModel$Role" "seems" "I") ∈ tw := tw_in (i := 1521) (by decide +kernel) (by decide +kernel)
theorem i_X11 : ∀ w ∈ u_ws RX11 TX11 7, w ∈ tw := by
  have e : u_ws RX11 TX11 7 = [Cond.laysFinal "NightfallVillageModel$Role" "NightfallVillageModel$Role" "side" "C", Cond.laysFinal "NightfallVillageModel$Role" "NightfallVillageModel$Role" "act" "C", Cond.laysFinal "NightfallVillageModel$Role" "NightfallVillageModel$Role" "weight" "I", Cond.laysFinal "NightfallVillageModel$Role" "NightfallVillageModel$Role" "isOnce" "Z", Cond.laysFinal "NightfallVillageModel$Role" "NightfallVillageModel$Role" "isFool" "Z", Cond.laysFinal "NightfallVillageModel$Role" "NightfallVillageModel$Role" "isHunter" "Z", Cond.lays "NightfallVillageModel$Role" "NightfallVillageModel$Role" "seems" "I"] := by decide +kernel
  rw [e]
  exact List.forall_mem_cons.mpr ⟨q_1509, List.forall_mem_cons.mpr ⟨q_1511, List.forall_mem_cons.mpr ⟨q_1513, List.forall_mem_cons.mpr ⟨q_1515, List.forall_mem_cons.mpr ⟨q_1517, List.forall_mem_cons.mpr ⟨q_1519, List.forall_mem_cons.mpr ⟨q_1521, fun _ h => absurd h List.not_mem_nil⟩⟩⟩⟩⟩⟩⟩
def RX12 : String := "NightfallVillageModel"
def TX12 : u_T := fun k => match k with
  | 0 => ("NightfallVillageModel", "thrown", "I", false)
  | 1 => ("NightfallVillageModel", "roles", "Ljava/util/List;", true)
  | 2 => ("NightfallVillageModel", "dealt", "Ljava/util/List;", true)
  | 3 => ("NightfallVillageModel", "heirOf", "[I", true)
  | 4 => ("NightfallVillageModel", "lover", "I", false)
  | 5 => ("NightfallVillageModel", "beloved", "I", false)
  | 6 => ("NightfallVillageModel", "hasBegun", "Z", false)
  | 7 => ("NightfallVillageModel", "own", "[I", true)
  | 8 => ("NightfallVillageModel", "marked", "[I", true)
  | 9 => ("NightfallVillageModel", "target", "[I", true)
  | 10 => ("NightfallVillageModel", "votes", "[I", true)
  | 11 => ("NightfallVillageModel", "ghostDay", "[I", true)
  | 12 => ("NightfallVillageModel", "knownRole", "[I", true)
  | 13 => ("NightfallVillageModel", "death", "[C", true)
  | 14 => ("NightfallVillageModel", "isUsed", "[Z", true)
  | 15 => ("NightfallVillageModel", "isSilenced", "[Z", true)
  | 16 => ("NightfallVillageModel", "isNight", "Z", false)
  | 17 => ("NightfallVillageModel", "hasHeirs", "Z", false)
  | 18 => ("NightfallVillageModel", "did", "[Z", false)
  | 19 => ("NightfallVillageModel", "number", "I", false)
  | 20 => ("NightfallVillageModel", "winner", "C", false)
  | 21 => ("NightfallVillageModel", "toldAt", "Ljava/util/List;", true)
  | 22 => ("NightfallVillageModel", "seenAt", "Ljava/util/List;", true)
  | 23 => ("NightfallVillageModel", "livedAt", "Ljava/util/List;", true)
  | 24 => ("NightfallVillageModel", "history", "Ljava/util/List;", true)
  | _ => ("NightfallVillageModel", "claims", "Ljava/util/List;", true)
def tyX12 : Nat → FieldType := fun k => match k with
  | 0 => .int
  | 1 => .object "java/util/List"
  | 2 => .object "java/util/List"
  | 3 => .array .int
  | 4 => .int
  | 5 => .int
  | 6 => .boolean
  | 7 => .array .int
  | 8 => .array .int
  | 9 => .array .int
  | 10 => .array .int
  | 11 => .array .int
  | 12 => .array .int
  | 13 => .array .char
  | 14 => .array .boolean
  | 15 => .array .boolean
  | 16 => .boolean
  | 17 => .boolean
  | 18 => .array .boolean
  | 19 => .int
  | 20 => .char
  | 21 => .object "java/util/List"
  | 22 => .object "java/util/List"
  | 23 => .object "java/util/List"
  | 24 => .object "java/util/List"
  | _ => .object "java/util/List"
theorem nmX12 : ∀ a, a < 26 → ∀ b, b < 26 → a ≠ b → (TX12 a).2.1 ≠ (TX12 b).2.1 := by decide +kernel
theorem tyX12_ok : ∀ k, k < 26 → parseFieldDescriptor (TX12 k).2.2.1 = some (tyX12 k) := by decide +kernel
theorem q_1330 : (Cond.lays "NightfallVillageModel" "NightfallVillageModel" "thrown" "I") ∈ tw := tw_in (i := 1330) (by decide +kernel) (by decide +kernel)
theorem q_1332 : (Cond.laysFinal "NightfallVillageModel" "NightfallVillageModel" "roles" "Ljava/util/List;") ∈ tw := tw_in (i := 1332) (by decide +kernel) (by decide +kernel)
theorem q_1334 : (Cond.laysFinal "NightfallVillageModel" "NightfallVillageModel" "dealt" "Ljava/util/List;") ∈ tw := tw_in (i := 1334) (by decide +kernel) (by decide +kernel)
theorem q_1336 : (Cond.laysFinal "NightfallVillageModel" "NightfallVillageModel" "heirOf" "[I") ∈ tw := tw_in (i := 1336) (by decide +kernel) (by decide +kernel)
theorem q_1338 : (Cond.lays "NightfallVillageModel" "NightfallVillageModel" "lover" "I") ∈ tw := tw_in (i := 1338) (by decide +kernel) (by decide +kernel)
theorem q_1340 : (Cond.lays "NightfallVillageModel" "NightfallVillageModel" "beloved" "I") ∈ tw := tw_in (i := 1340) (by decide +kernel) (by decide +kernel)
theorem q_1342 : (Cond.lays "NightfallVillageModel" "NightfallVillageModel" "hasBegun" "Z") ∈ tw := tw_in (i := 1342) (by decide +kernel) (by decide +kernel)
theorem q_1344 : (Cond.laysFinal "NightfallVillageModel" "NightfallVillageModel" "own" "[I") ∈ tw := tw_in (i := 1344) (by decide +kernel) (by decide +kernel)
theorem q_1346 : (Cond.laysFinal "NightfallVillageModel" "NightfallVillageModel" "marked" "[I") ∈ tw := tw_in (i := 1346) (by decide +kernel) (by decide +kernel)
theorem q_1348 : (Cond.laysFinal "NightfallVillageModel" "NightfallVillageModel" "target" "[I") ∈ tw := tw_in (i := 1348) (by decide +kernel) (by decide +kernel)
theorem q_1350 : (Cond.laysFinal "NightfallVillageModel" "NightfallVillageModel" "votes" "[I") ∈ tw := tw_in (i := 1350) (by decide +kernel) (by decide +kernel)
theorem q_1352 : (Cond.laysFinal "NightfallVillageModel" "NightfallVillageModel" "ghostDay" "[I") ∈ tw := tw_in (i := 1352) (by decide +kernel) (by decide +kernel)
theorem q_1354 : (Cond.laysFinal "NightfallVillageModel" "NightfallVillageModel" "knownRole" "[I") ∈ tw := tw_in (i := 1354) (by decide +kernel) (by decide +kernel)
theorem q_1356 : (Cond.laysFinal "NightfallVillageModel" "NightfallVillageModel" "death" "[C") ∈ tw := tw_in (i := 1356) (by decide +kernel) (by decide +kernel)
theorem q_1358 : (Cond.laysFinal "NightfallVillageModel" "NightfallVillageModel" "isUsed" "[Z") ∈ tw := tw_in (i := 1358) (by decide +kernel) (by decide +kernel)
theorem q_1360 : (Cond.laysFinal "NightfallVillageModel" "NightfallVillageModel" "isSilenced" "[Z") ∈ tw := tw_in (i := 1360) (by decide +kernel) (by decide +kernel)
theorem q_1362 : (Cond.lays "NightfallVillageModel" "NightfallVillageModel" "isNight" "Z") ∈ tw := tw_in (i := 1362) (by decide +kernel) (by decide +kernel)
theorem q_1364 : (Cond.lays "NightfallVillageModel" "NightfallVillageModel" "hasHeirs" "Z") ∈ tw := tw_in (i := 1364) (by decide +kernel) (by decide +kernel)
theorem q_1366 : (Cond.lays "NightfallVillageModel" "NightfallVillageModel" "did" "[Z") ∈ tw := tw_in (i := 1366) (by decide +kernel) (by decide +kernel)
theorem q_1368 : (Cond.lays "NightfallVillageModel" "NightfallVillageModel" "number" "I") ∈ tw := tw_in (i := 1368) (by decide +kernel) (by decide +kernel)
theorem q_1370 : (Cond.lays "NightfallVillageModel" "NightfallVillageModel" "winner" "C") ∈ tw := tw_in (i := 1370) (by decide +kernel) (by decide +kernel)
theorem q_1372 : (Cond.laysFinal "NightfallVillageModel" "NightfallVillageModel" "toldAt" "Ljava/util/List;") ∈ tw := tw_in (i := 1372) (by decide +kernel) (by decide +kernel)
theorem q_1374 : (Cond.laysFinal "NightfallVillageModel" "NightfallVillageModel" "seenAt" "Ljava/util/List;") ∈ tw := tw_in (i := 1374) (by decide +kernel) (by decide +kernel)
theorem q_1376 : (Cond.laysFinal "NightfallVillageModel" "NightfallVillageModel" "livedAt" "Ljava/util/List;") ∈ tw := tw_in (i := 1376) (by decide +kernel) (by decide +kernel)
theorem q_1378 : (Cond.laysFinal "NightfallVillageModel" "NightfallVillageModel" "history" "Ljava/util/List;") ∈ tw := tw_in (i := 1378) (by decide +kernel) (by decide +kernel)
theorem q_1380 : (Cond.laysFinal "NightfallVillageModel" "NightfallVillageModel" "claims" "Ljava/util/List;") ∈ tw := tw_in (i := 1380) (by decide +kernel) (by decide +kernel)
theorem i_X12 : ∀ w ∈ u_ws RX12 TX12 26, w ∈ tw := by
  have e : u_ws RX12 TX12 26 = [Cond.lays "NightfallVillageModel" "NightfallVillageModel" "thrown" "I", Cond.laysFinal "NightfallVillageModel" "NightfallVillageModel" "roles" "Ljava/util/List;", Cond.laysFinal "NightfallVillageModel" "NightfallVillageModel" "dealt" "Ljava/util/List;", Cond.laysFinal "NightfallVillageModel" "NightfallVillageModel" "heirOf" "[I", Cond.lays "NightfallVillageModel" "NightfallVillageModel" "lover" "I", Cond.lays "NightfallVillageModel" "NightfallVillageModel" "beloved" "I", Cond.lays "NightfallVillageModel" "NightfallVillageModel" "hasBegun" "Z", Cond.laysFinal "NightfallVillageModel" "NightfallVillageModel" "own" "[I", Cond.laysFinal "NightfallVillageModel" "NightfallVillageModel" "marked" "[I", Cond.laysFinal "NightfallVillageModel" "NightfallVillageModel" "target" "[I", Cond.laysFinal "NightfallVillageModel" "NightfallVillageModel" "votes" "[I", Cond.laysFinal "NightfallVillageModel" "NightfallVillageModel" "ghostDay" "[I", Cond.laysFinal "NightfallVillageModel" "NightfallVillageModel" "knownRole" "[I", Cond.laysFinal "NightfallVillageModel" "NightfallVillageModel" "death" "[C", Cond.laysFinal "NightfallVillageModel" "NightfallVillageModel" "isUsed" "[Z", Cond.laysFinal "NightfallVillageModel" "NightfallVillageModel" "isSilenced" "[Z", Cond.lays "NightfallVillageModel" "NightfallVillageModel" "isNight" "Z", Cond.lays "NightfallVillageModel" "NightfallVillageModel" "hasHeirs" "Z", Cond.lays "NightfallVillageModel" "NightfallVillageModel" "did" "[Z", Cond.lays "NightfallVillageModel" "NightfallVillageModel" "number" "I", Cond.lays "NightfallVillageModel" "NightfallVillageModel" "winner" "C", Cond.laysFinal "NightfallVillageModel" "NightfallVillageModel" "toldAt" "Ljava/util/List;", Cond.laysFinal "NightfallVillageModel" "NightfallVillageModel" "seenAt" "Ljava/util/List;", Cond.laysFinal "NightfallVillageModel" "NightfallVillageModel" "livedAt" "Ljava/util/List;", Cond.laysFinal "NightfallVillageModel" "NightfallVillageModel" "history" "Ljava/util/List;", Cond.laysFinal "NightfallVillageModel" "NightfallVillageModel" "claims" "Ljava/util/List;"] := by decide +kernel
  rw [e]
  exact List.forall_mem_cons.mpr ⟨q_1330, List.forall_mem_cons.mpr ⟨q_1332, List.forall_mem_cons.mpr ⟨q_1334, List.forall_mem_cons.mpr ⟨q_1336, List.forall_mem_cons.mpr ⟨q_1338, List.forall_mem_cons.mpr ⟨q_1340, List.forall_mem_cons.mpr ⟨q_1342, List.forall_mem_cons.mpr ⟨q_1344, List.forall_mem_cons.mpr ⟨q_1346, List.forall_mem_cons.mpr ⟨q_1348, List.forall_mem_cons.mpr ⟨q_1350, List.forall_mem_cons.mpr ⟨q_1352, List.forall_mem_cons.mpr ⟨q_1354, List.forall_mem_cons.mpr ⟨q_1356, List.forall_mem_cons.mpr ⟨q_1358, List.forall_mem_cons.mpr ⟨q_1360, List.forall_mem_cons.mpr ⟨q_1362, List.forall_mem_cons.mpr ⟨q_1364, List.forall_mem_cons.mpr ⟨q_1366, List.forall_mem_cons.mpr ⟨q_1368, List.forall_mem_cons.mpr ⟨q_1370, List.forall_mem_cons.mpr ⟨q_1372, List.forall_mem_cons.mpr ⟨q_1374, List.forall_mem_cons.mpr ⟨q_1376, List.forall_mem_cons.mpr ⟨q_1378, List.forall_mem_cons.mpr ⟨q_1380, fun _ h => absurd h List.not_mem_nil⟩⟩⟩⟩⟩⟩⟩⟩⟩⟩⟩⟩⟩⟩⟩⟩⟩⟩⟩⟩⟩⟩⟩⟩⟩⟩
def RJ6 : String := "java/lang/Integer"
def TJ6 : u_T := fun k => match k with
  | _ => ("java/lang/Integer", "value", "I", true)
def tyJ6 : Nat → FieldType := fun k => match k with
  | _ => .int
theorem nmJ6 : ∀ a, a < 1 → ∀ b, b < 1 → a ≠ b → (TJ6 a).2.1 ≠ (TJ6 b).2.1 := by decide +kernel
theorem tyJ6_ok : ∀ k, k < 1 → parseFieldDescriptor (TJ6 k).2.2.1 = some (tyJ6 k) := by decide +kernel
theorem q_1640 : (Cond.laysFinal "java/lang/Integer" "java/lang/Integer" "value" "I") ∈ tw := tw_in (i := 1640) (by decide +kernel) (by decide +kernel)
theorem i_J6 : ∀ w ∈ u_ws RJ6 TJ6 1, w ∈ tw := by
  have e : u_ws RJ6 TJ6 1 = [Cond.laysFinal "java/lang/Integer" "java/lang/Integer" "value" "I"] := by decide +kernel
  rw [e]
  exact List.forall_mem_cons.mpr ⟨q_1640, fun _ h => absurd h List.not_mem_nil⟩
def RJx4a65c : String := "java/util/ArrayList"
def TJx4a65c : u_T := fun k => match k with
  | 0 => ("java/util/AbstractList", "modCount", "I", false)
  | 1 => ("java/util/ArrayList", "elementData", "[Ljava/lang/Object;", false)
  | _ => ("java/util/ArrayList", "size", "I", false)
def tyJx4a65c : Nat → FieldType := fun k => match k with
  | 0 => .int
  | 1 => .array (.object "java/lang/Object")
  | _ => .int
theorem nmJx4a65c : ∀ a, a < 3 → ∀ b, b < 3 → a ≠ b → (TJx4a65c a).2.1 ≠ (TJx4a65c b).2.1 := by decide +kernel
theorem tyJx4a65c_ok : ∀ k, k < 3 → parseFieldDescriptor (TJx4a65c k).2.2.1 = some (tyJx4a65c k) := by decide +kernel
theorem q_1297 : (Cond.lays "java/util/ArrayList" "java/util/AbstractList" "modCount" "I") ∈ tw := tw_in (i := 1297) (by decide +kernel) (by decide +kernel)
theorem q_1293 : (Cond.lays "java/util/ArrayList" "java/util/ArrayList" "elementData" "[Ljava/lang/Object;") ∈ tw := tw_in (i := 1293) (by decide +kernel) (by decide +kernel)
theorem q_1295 : (Cond.lays "java/util/ArrayList" "java/util/ArrayList" "size" "I") ∈ tw := tw_in (i := 1295) (by decide +kernel) (by decide +kernel)
theorem i_Jx4a65c : ∀ w ∈ u_ws RJx4a65c TJx4a65c 3, w ∈ tw := by
  have e : u_ws RJx4a65c TJx4a65c 3 = [Cond.lays "java/util/ArrayList" "java/util/AbstractList" "modCount" "I", Cond.lays "java/util/ArrayList" "java/util/ArrayList" "elementData" "[Ljava/lang/Object;", Cond.lays "java/util/ArrayList" "java/util/ArrayList" "size" "I"] := by decide +kernel
  rw [e]
  exact List.forall_mem_cons.mpr ⟨q_1297, List.forall_mem_cons.mpr ⟨q_1293, List.forall_mem_cons.mpr ⟨q_1295, fun _ h => absurd h List.not_mem_nil⟩⟩⟩
abbrev cls : List vw_C := [(RX0, TX0, 4), (RX1, TX1, 2), (RX2, TX2, 6), (RX3, TX3, 9), (RX4, TX4, 7), (RX5, TX5, 2), (RX6, TX6, 11), (RX7, TX7, 8), (RX8, TX8, 4), (RX9, TX9, 9), (RX10, TX10, 8), (RX11, TX11, 7), (RX12, TX12, 26), (RJ6, TJ6, 1), (RJx4a65c, TJx4a65c, 3)]
/-! ===== what lies in the old heap and in the tables, wherever the walk stands ===== -/
def nJ : Nat := 2
def lenJ : List Nat := [3, 8]
def bytJ : List (List Int32) := [[118, 119, 108], [45, 98, 114, 100, 112, 115, 113, 107]]
/-- the statics that a throw reads -/
def am_z (A : Nat → Prop) (U : State) (H : Heap) : Prop := vx_Zq Bundle.tN "UNASSIGNED_STACK" Bundle.steD A U H ∧ vx_Zq Bundle.tN "SUPPRESSED_SENTINEL" Bundle.listD A U H
/-- every String constant stands resolved -/
def am_r (U : State) : Prop := ∀ (own : String) (k : Nat) (tx : String), Cond.stringRef own k tx ∈ tables_1 → ∃ sa, vk_R own k tx sa U
/-- ArrayList's shared empty row -/
def am_l (tE : Nat) (A : Nat → Prop) (U : State) (H : Heap) : Prop := va_Z "java/util/ArrayList" "DEFAULTCAPACITY_EMPTY_ELEMENTDATA" "[Ljava/lang/Object;" (.ref tE) A U H ∧ va_T (.object "java/lang/Object") tE 0 (fun _ => .null) A U H
/-- the two texts that are searched -/
def am_s (adK adV : Nat → Nat) (A : Nat → Prop) (U : State) (H : Heap) : Prop := va_Z "java/lang/String" "COMPACT_STRINGS" "Z" (.int 1) A U H ∧ vk_S nJ lenJ bytJ adK adV A U H
/-- .. and where the reference's class holds them -/
def am_k (adK : Nat → Nat) (U : State) : Prop := (∀ k, Cond.stringRef "NightfallVillageModel" k "vwl" ∈ tables_1 → vk_R "NightfallVillageModel" k "vwl" (adK 0) U) ∧ (∀ k, Cond.stringRef "NightfallVillageModel" k "-brdpsqk" ∈ tables_1 → vk_R "NightfallVillageModel" k "-brdpsqk" (adK 1) U)
def am (tE : Nat) (adK adV : Nat → Nat) (A : Nat → Prop) (U : State) (H : Heap) : Prop := am_z A U H ∧ am_r U ∧ am_l tE A U H ∧ am_s adK adV A U H ∧ am_k adK U
section AM
variable {tE : Nat} {adK adV : Nat → Nat} {A B : Nat → Prop} {s U : State} {H H1 : Heap}
theorem am.move (hW : s.WarmedH U.vm) (h : am tE adK adV A s H) : am tE adK adV A U H := by
  obtain ⟨⟨z1, z2⟩, r, ⟨l1, l2⟩, ⟨s1, s2⟩, ⟨k1, k2⟩⟩ := h
  refine ⟨⟨vx_Zq.moved hW.alike z1, vx_Zq.moved hW.alike z2⟩, fun own k tx hw => ?_, ⟨va_Z.moved hW.alike l1, va_T.moved hW.alike l2⟩, ⟨va_Z.moved hW.alike s1, vk_S.moved hW.alike s2⟩, ⟨fun k hk => vk_R.warm hW (k1 k hk), fun k hk => vk_R.warm hW (k2 k hk)⟩⟩
  obtain ⟨sa, h⟩ := r own k tx hw
  exact ⟨sa, vk_R.warm hW h⟩
theorem am.kept (h : am tE adK adV A U H) (hq : ∀ a : Nat, a < H.size → ¬ A a → H1[a]? = H[a]?) : am tE adK adV A U H1 := by
  obtain ⟨⟨z1, z2⟩, r, ⟨l1, l2⟩, ⟨s1, s2⟩, k⟩ := h
  exact ⟨⟨z1.kept hq, z2.kept hq⟩, r, ⟨va_Z.kept l1 hq, l2.kept hq⟩, ⟨va_Z.kept s1 hq, s2.kept hq⟩, k⟩
theorem am.narrow (h : am tE adK adV A U H) (hAB : ∀ q, B q → A q) : am tE adK adV B U H := by
  obtain ⟨⟨z1, z2⟩, r, ⟨l1, l2⟩, ⟨s1, s2⟩, k⟩ := h
  exact ⟨⟨z1.narrow hAB, z2.narrow hAB⟩, r, ⟨va_Z.narrow l1 hAB, l2.narrow hAB⟩, ⟨va_Z.narrow s1 hAB, s2.narrow hAB⟩, k⟩
end AM
/-! ===== a method's start: its world, the tables, the old heap ===== -/
/-- a method that writes into its world -/
def pre (tE : Nat) (adK adV : Nat → Nat) (D : va_G) (ws : va_W) (tys : List (ClassId × FieldType)) (sz : Nat) (U : State) : Prop := U.heap.size = sz ∧ va_P D cls ws U.heap ∧ va_K D cls tys U ∧ va_D (fun _ => True) ws ∧ am tE adK adV (va_A ws sz) U U.heap
/-- a method that only reads it -/
def preR (tE : Nat) (adK adV : Nat → Nat) (D : va_G) (ws : va_W) (tys : List (ClassId × FieldType)) (sz : Nat) (U : State) : Prop := U.heap.size = sz ∧ va_P D cls ws U.heap ∧ va_K D cls tys U ∧ am tE adK adV (fun q : Nat => sz ≤ q) U U.heap
section PRE
variable {tE : Nat} {adK adV : Nat → Nat} {D : va_G} {ws wc : va_W} {tys tc : List (ClassId × FieldType)} {sz : Nat} {A : Nat → Prop} {s U : State} {H : Heap} {locs : List Loc}
theorem pre.blind {g : JFrame} {mk : MethodId} {a : Array Value} (h : pre tE adK adV D ws tys sz U) : pre tE adK adV D ws tys sz (U.calling g mk a) := by
  obtain ⟨h1, h2, h3, h4, h5⟩ := h
  exact ⟨h1, h2, va_K.moved (u := U) (U := U.calling g mk a) (Vm.Alike.refl U.vm) h3, h4, am.move (s := U) (U := U.calling g mk a) (State.WarmedH.refl U) h5⟩
theorem preR.blind {g : JFrame} {mk : MethodId} {a : Array Value} (h : preR tE adK adV D ws tys sz U) : preR tE adK adV D ws tys sz (U.calling g mk a) := by
  obtain ⟨h1, h2, h3, h5⟩ := h
  exact ⟨h1, h2, va_K.moved (u := U) (U := U.calling g mk a) (Vm.Alike.refl U.vm) h3, am.move (s := U) (U := U.calling g mk a) (State.WarmedH.refl U) h5⟩
theorem pre.fb {As : List Value} : FrameBlind (va_Pc As (pre tE adK adV D ws tys sz)) := fun _ _ _ _ q => ⟨q.1, q.2.blind⟩
theorem preR.fb {As : List Value} : FrameBlind (va_Pc As (preR tE adK adV D ws tys sz)) := fun _ _ _ _ q => ⟨q.1, q.2.blind⟩
theorem pre.of (hP : va_P D cls wc H) (hD : va_D A wc) (hK : va_K D cls tc s) (ham : am tE adK adV A s s.heap) (hS : va_S A s.heap H locs) (hF : ∀ q, va_A wc H.size q → A q) : ∀ V : State, V.heap = H → s.WarmedH V.vm → pre tE adK adV D wc tc H.size V := by
  intro V hV hW
  refine ⟨by rw [hV], by rw [hV]; exact hP, va_K.moved hW.alike hK, hD.weaken (fun _ _ _ _ => trivial), ?_⟩
  rw [hV]
  exact (((ham.kept hS.2.1).narrow hF).move hW)
theorem preR.of (hP : va_P D cls wc H) (hK : va_K D cls tc s) (ham : am tE adK adV A s s.heap) (hS : va_S A s.heap H locs) (hA : ∀ q, s.heap.size ≤ q → A q) : ∀ V : State, V.heap = H → s.WarmedH V.vm → preR tE adK adV D wc tc H.size V := by
  intro V hV hW
  refine ⟨by rw [hV], by rw [hV]; exact hP, va_K.moved hW.alike hK, ?_⟩
  rw [hV]
  exact (((ham.kept hS.2.1).narrow (fun q h => hA q (Nat.le_trans hS.1 h))).move hW)
theorem pre.S (h : ∀ V : State, V.heap = H → s.WarmedH V.vm → pre tE adK adV D wc tc sz V) {As : List Value} : PreS s H (va_Pc As (pre tE adK adV D wc tc sz)) As := ⟨pre.fb, fun V hV hW => ⟨rfl, h V hV hW⟩⟩
theorem preR.S (h : ∀ V : State, V.heap = H → s.WarmedH V.vm → preR tE adK adV D wc tc sz V) {As : List Value} : PreS s H (va_Pc As (preR tE adK adV D wc tc sz)) As := ⟨preR.fb, fun V hV hW => ⟨rfl, h V hV hW⟩⟩
theorem pre.V {b : Nat} {C : String} (hr : ∃ cellB : Cell, H[b]? = some cellB ∧ cellB.vm.isStatics = false ∧ s.vm.findClass C = some cellB.cls) (h : ∀ V : State, V.heap = H → s.WarmedH V.vm → pre tE adK adV D wc tc sz V) {As : List Value} : PreV s H C b (va_Pc (.ref b :: As) (pre tE adK adV D wc tc sz)) As := ⟨pre.fb, hr, fun V hV hW => ⟨rfl, h V hV hW⟩⟩
theorem preR.V {b : Nat} {C : String} (hr : ∃ cellB : Cell, H[b]? = some cellB ∧ cellB.vm.isStatics = false ∧ s.vm.findClass C = some cellB.cls) (h : ∀ V : State, V.heap = H → s.WarmedH V.vm → preR tE adK adV D wc tc sz V) {As : List Value} : PreV s H C b (va_Pc (.ref b :: As) (preR tE adK adV D wc tc sz)) As := ⟨preR.fb, hr, fun V hV hW => ⟨rfl, h V hV hW⟩⟩
/-- behind a callee that wrote nothing old: the world as it was -/
theorem ro_keep {H1 : Heap} (hP : va_P D cls ws H) (hk : ∀ q : Nat, q < H.size → ¬ (H.size ≤ q) → H1[q]? = H[q]?) : va_P D cls ws H1 := hP.kept (fun k q hq => hk q.1 (hP k q hq).lt (Nat.not_le.mpr (hP k q hq).lt))
/-- the end of a throw that wrote nothing old -/
theorem vx_end {cn : String} (hS : va_S A s.heap H locs) : ∀ t : State, s.vm.Alike t.vm → H.size ≤ t.heap.size → (∀ q : Nat, q < H.size → t.heap[q]? = H[q]?) → vx_X (fun _ : Unit => True) (fun E (_ : Unit) (_ : State) => E = cn) A cn s t :=
  fun t _ h1 h2 => ⟨(), trivial, rfl, Nat.le_trans hS.1 h1, fun q hq hn => by rw [h2 q (Nat.lt_of_lt_of_le hq hS.1)]; exact hS.2.1 q hq hn⟩
/-- .. and of a callee's throw that goes through -/
theorem vx_thru {cn E : String} (hE : E = cn) (hS : va_S A s.heap H locs) : ∀ t : State, t.heap = H → s.vm.Alike t.vm → vx_X (fun _ : Unit => True) (fun E (_ : Unit) (_ : State) => E = cn) A E s t :=
  fun t h1 _ => ⟨(), trivial, hE, by rw [h1]; exact hS.1, fun q hq hn => by rw [h1]; exact hS.2.1 q hq hn⟩
end PRE
def thr_all : List Cond := [(Cond.initialized "java/lang/Throwable"), (Cond.initialized "java/lang/Exception"), (Cond.initialized "java/lang/RuntimeException"), (Cond.initialized "java/lang/IllegalArgumentException"), (Cond.initialized "java/lang/UnsupportedOperationException"), (Cond.initialized "java/lang/IllegalStateException"), (Cond.initialized "java/lang/IndexOutOfBoundsException"), (Cond.initialized "java/util/NoSuchElementException"), (Cond.instanceMethod ({ cls := "java/lang/Object", name := "<init>", desc := "()V" } : Jvm.MethodName)), (Cond.code ({ cls := "java/lang/Object", name := "<init>", desc := "()V" } : Jvm.MethodName) object_method_1_code (1 : Nat) (Option.none : Option Jvm.ClassFile.FieldType)), (Cond.classLink "NightfallVillageLaw" (13 : Nat) "java/lang/IllegalArgumentException"), (Cond.classLink "NightfallVillageLaw" (15 : Nat) "java/lang/UnsupportedOperationException"), (Cond.classLink "NightfallVillageLaw" (17 : Nat) "java/lang/IllegalStateException"), (Cond.classLink "NightfallVillage" (76 : Nat) "java/lang/IllegalArgumentException"), (Cond.instantiable "java/lang/IllegalArgumentException" (6 : Nat)), (Cond.castable "java/lang/IllegalArgumentException" "java/lang/IllegalArgumentException"), (Cond.declares ({ cls := "java/lang/RuntimeException", name := "<init>", desc := "()V" } : Jvm.MethodName)), (Cond.declares ({ cls := "java/lang/RuntimeException", name := "<init>", desc := "(Ljava/lang/String;)V" } : Jvm.MethodName)), (Cond.declares ({ cls := "java/lang/Exception", name := "<init>", desc := "()V" } : Jvm.MethodName)), (Cond.declares ({ cls := "java/lang/Exception", name := "<init>", desc := "(Ljava/lang/String;)V" } : Jvm.MethodName)), (Cond.declares ({ cls := "java/lang/Throwable", name := "<init>", desc := "()V" } : Jvm.MethodName)), (Cond.declares ({ cls := "java/lang/Throwable", name := "<init>", desc := "(Ljava/lang/String;)V" } : Jvm.MethodName)), (Cond.selects "java/lang/IllegalArgumentException" ({ cls := "java/lang/Throwable", name := "fillInStackTrace", desc := "(I)Ljava/lang/Throwable;" } : Jvm.MethodName) ({ cls := "java/lang/Throwable", name := "fillInStackTrace", desc := "(I)Ljava/lang/Throwable;" } : Jvm.MethodName)), (Cond.selects "java/lang/IllegalArgumentException" ({ cls := "java/lang/Throwable", name := "fillInStackTrace", desc := "()Ljava/lang/Throwable;" } : Jvm.MethodName) ({ cls := "java/lang/Throwable", name := "fillInStackTrace", desc := "()Ljava/lang/Throwable;" } : Jvm.MethodName)), (Cond.lays "java/lang/IllegalArgumentException" "java/lang/Throwable" "cause" "Ljava/lang/Throwable;"), (Cond.lays "java/lang/Throwable" "java/lang/Throwable" "cause" "Ljava/lang/Throwable;"), (Cond.lays "java/lang/IllegalArgumentException" "java/lang/Throwable" "stackTrace" "[Ljava/lang/StackTraceElement;"), (Cond.lays "java/lang/Throwable" "java/lang/Throwable" "stackTrace" "[Ljava/lang/StackTraceElement;"), (Cond.lays "java/lang/IllegalArgumentException" "java/lang/Throwable" "suppressedExceptions" "Ljava/util/List;"), (Cond.lays "java/lang/Throwable" "java/lang/Throwable" "suppressedExceptions" "Ljava/util/List;"), (Cond.lays "java/lang/IllegalArgumentException" "java/lang/Throwable" "detailMessage" "Ljava/lang/String;"), (Cond.lays "java/lang/Throwable" "java/lang/Throwable" "detailMessage" "Ljava/lang/String;"), (Cond.lays "java/lang/IllegalArgumentException" "java/lang/Throwable" "backtrace" "Ljava/lang/Object;"), (Cond.lays "java/lang/Throwable" "java/lang/Throwable" "backtrace" "Ljava/lang/Object;"), (Cond.fieldLink "java/lang/Throwable" (198 : Nat) "java/lang/Throwable" "backtrace" "Ljava/lang/Object;"), (Cond.superclass "java/lang/Throwable" "java/lang/Object"), (Cond.instanceMethod ({ cls := "java/lang/Throwable", name := "<init>", desc := "()V" } : Jvm.MethodName)), (Cond.code ({ cls := "java/lang/Throwable", name := "<init>", desc := "()V" } : Jvm.MethodName) prog_34_method_1_code (1 : Nat) (Option.none : Option Jvm.ClassFile.FieldType)), (Cond.methodLink "java/lang/Throwable" (1 : Nat) ({ cls := "java/lang/Object", name := "<init>", desc := "()V" } : Jvm.MethodName)), (Cond.fieldLink "java/lang/Throwable" (13 : Nat) "java/lang/Throwable" "UNASSIGNED_STACK" "[Ljava/lang/StackTraceElement;"), (Cond.fieldLink "java/lang/Throwable" (20 : Nat) "java/lang/Throwable" "SUPPRESSED_SENTINEL" "Ljava/util/List;"), (Cond.methodLink "java/lang/Throwable" (27 : Nat) ({ cls := "java/lang/Throwable", name := "fillInStackTrace", desc := "()Ljava/lang/Throwable;" } : Jvm.MethodName)), (Cond.instanceMethod ({ cls := "java/lang/Throwable", name := "fillInStackTrace", desc := "()Ljava/lang/Throwable;" } : Jvm.MethodName)), (Cond.sameMethod "java/lang/Throwable" "java/lang/Throwable" "fillInStackTrace" "()Ljava/lang/Throwable;"), (Cond.selects "java/lang/IllegalStateException" ({ cls := "java/lang/Throwable", name := "fillInStackTrace", desc := "()Ljava/lang/Throwable;" } : Jvm.MethodName) ({ cls := "java/lang/Throwable", name := "fillInStackTrace", desc := "()Ljava/lang/Throwable;" } : Jvm.MethodName)), (Cond.selects "java/lang/IndexOutOfBoundsException" ({ cls := "java/lang/Throwable", name := "fillInStackTrace", desc := "()Ljava/lang/Throwable;" } : Jvm.MethodName) ({ cls := "java/lang/Throwable", name := "fillInStackTrace", desc := "()Ljava/lang/Throwable;" } : Jvm.MethodName)), (Cond.selects "java/lang/UnsupportedOperationException" ({ cls := "java/lang/Throwable", name := "fillInStackTrace", desc := "()Ljava/lang/Throwable;" } : Jvm.MethodName) ({ cls := "java/lang/Throwable", name := "fillInStackTrace", desc := "()Ljava/lang/Throwable;" } : Jvm.MethodName)), (Cond.selects "java/util/NoSuchElementException" ({ cls := "java/lang/Throwable", name := "fillInStackTrace", desc := "()Ljava/lang/Throwable;" } : Jvm.MethodName) ({ cls := "java/lang/Throwable", name := "fillInStackTrace", desc := "()Ljava/lang/Throwable;" } : Jvm.MethodName)), (Cond.codeSync ({ cls := "java/lang/Throwable", name := "fillInStackTrace", desc := "()Ljava/lang/Throwable;" } : Jvm.MethodName) prog_34_method_18_code (1 : Nat) (Option.some (Jvm.ClassFile.FieldType.object "java/lang/Throwable"))), (Cond.methodLink "java/lang/Throwable" (202 : Nat) ({ cls := "java/lang/Throwable", name := "fillInStackTrace", desc := "(I)Ljava/lang/Throwable;" } : Jvm.MethodName)), (Cond.privateMethod ({ cls := "java/lang/Throwable", name := "fillInStackTrace", desc := "(I)Ljava/lang/Throwable;" } : Jvm.MethodName)), (Cond.instanceMethod ({ cls := "java/lang/Throwable", name := "fillInStackTrace", desc := "(I)Ljava/lang/Throwable;" } : Jvm.MethodName)), (Cond.instantiable "java/lang/Throwable" (6 : Nat)), (Cond.native ({ cls := "java/lang/Throwable", name := "fillInStackTrace", desc := "(I)Ljava/lang/Throwable;" } : Jvm.MethodName)), (Cond.methodLink "NightfallVillage" (80 : Nat) ({ cls := "java/lang/IllegalArgumentException", name := "<init>", desc := "(Ljava/lang/String;)V" } : Jvm.MethodName)), (Cond.instanceMethod ({ cls := "java/lang/IllegalArgumentException", name := "<init>", desc := "(Ljava/lang/String;)V" } : Jvm.MethodName)), (Cond.code ({ cls := "java/lang/IllegalArgumentException", name := "<init>", desc := "(Ljava/lang/String;)V" } : Jvm.MethodName) prog_21_method_2_code (2 : Nat) (Option.none : Option Jvm.ClassFile.FieldType)), (Cond.methodLink "java/lang/IllegalArgumentException" (7 : Nat) ({ cls := "java/lang/RuntimeException", name := "<init>", desc := "(Ljava/lang/String;)V" } : Jvm.MethodName)), (Cond.instanceMethod ({ cls := "java/lang/RuntimeException", name := "<init>", desc := "(Ljava/lang/String;)V" } : Jvm.MethodName)), (Cond.code ({ cls := "java/lang/RuntimeException", name := "<init>", desc := "(Ljava/lang/String;)V" } : Jvm.MethodName) prog_29_method_2_code (2 : Nat) (Option.none : Option Jvm.ClassFile.FieldType)), (Cond.methodLink "java/lang/RuntimeException" (7 : Nat) ({ cls := "java/lang/Exception", name := "<init>", desc := "(Ljava/lang/String;)V" } : Jvm.MethodName)), (Cond.instanceMethod ({ cls := "java/lang/Exception", name := "<init>", desc := "(Ljava/lang/String;)V" } : Jvm.MethodName)), (Cond.code ({ cls := "java/lang/Exception", name := "<init>", desc := "(Ljava/lang/String;)V" } : Jvm.MethodName) prog_20_method_2_code (2 : Nat) (Option.none : Option Jvm.ClassFile.FieldType)), (Cond.methodLink "java/lang/Exception" (7 : Nat) ({ cls := "java/lang/Throwable", name := "<init>", desc := "(Ljava/lang/String;)V" } : Jvm.MethodName)), (Cond.instanceMethod ({ cls := "java/lang/Throwable", name := "<init>", desc := "(Ljava/lang/String;)V" } : Jvm.MethodName)), (Cond.code ({ cls := "java/lang/Throwable", name := "<init>", desc := "(Ljava/lang/String;)V" } : Jvm.MethodName) prog_34_method_2_code (2 : Nat) (Option.none : Option Jvm.ClassFile.FieldType)), (Cond.fieldLink "java/lang/Throwable" (31 : Nat) "java/lang/Throwable" "detailMessage" "Ljava/lang/String;"), (Cond.fieldLink "java/lang/Throwable" (7 : Nat) "java/lang/Throwable" "cause" "Ljava/lang/Throwable;"), (Cond.fieldLink "java/lang/Throwable" (17 : Nat) "java/lang/Throwable" "stackTrace" "[Ljava/lang/StackTraceElement;"), (Cond.fieldLink "java/lang/Throwable" (24 : Nat) "java/lang/Throwable" "suppressedExceptions" "Ljava/util/List;"), (Cond.soleField "java/lang/Throwable" "backtrace"), (Cond.soleField "java/lang/Throwable" "detailMessage"), (Cond.soleField "java/lang/Throwable" "cause"), (Cond.soleField "java/lang/Throwable" "stackTrace"), (Cond.lays "java/lang/IllegalArgumentException" "java/lang/Throwable" "depth" "I"), (Cond.soleField "java/lang/Throwable" "depth"), (Cond.soleField "java/lang/Throwable" "suppressedExceptions"), (Cond.superclass "java/lang/IllegalArgumentException" "java/lang/RuntimeException"), (Cond.classLink "NightfallVillage" (134 : Nat) "java/lang/UnsupportedOperationException"), (Cond.instantiable "java/lang/UnsupportedOperationException" (6 : Nat)), (Cond.castable "java/lang/UnsupportedOperationException" "java/lang/UnsupportedOperationException"), (Cond.selects "java/lang/UnsupportedOperationException" ({ cls := "java/lang/Throwable", name := "fillInStackTrace", desc := "(I)Ljava/lang/Throwable;" } : Jvm.MethodName) ({ cls := "java/lang/Throwable", name := "fillInStackTrace", desc := "(I)Ljava/lang/Throwable;" } : Jvm.MethodName)), (Cond.lays "java/lang/UnsupportedOperationException" "java/lang/Throwable" "cause" "Ljava/lang/Throwable;"), (Cond.lays "java/lang/UnsupportedOperationException" "java/lang/Throwable" "stackTrace" "[Ljava/lang/StackTraceElement;"), (Cond.lays "java/lang/UnsupportedOperationException" "java/lang/Throwable" "suppressedExceptions" "Ljava/util/List;"), (Cond.lays "java/lang/UnsupportedOperationException" "java/lang/Throwable" "detailMessage" "Ljava/lang/String;"), (Cond.lays "java/lang/UnsupportedOperationException" "java/lang/Throwable" "backtrace" "Ljava/lang/Object;"), (Cond.methodLink "NightfallVillage" (138 : Nat) ({ cls := "java/lang/UnsupportedOperationException", name := "<init>", desc := "(Ljava/lang/String;)V" } : Jvm.MethodName)), (Cond.instanceMethod ({ cls := "java/lang/UnsupportedOperationException", name := "<init>", desc := "(Ljava/lang/String;)V" } : Jvm.MethodName)), (Cond.code ({ cls := "java/lang/UnsupportedOperationException", name := "<init>", desc := "(Ljava/lang/String;)V" } : Jvm.MethodName) prog_35_method_2_code (2 : Nat) (Option.none : Option Jvm.ClassFile.FieldType)), (Cond.methodLink "java/lang/UnsupportedOperationException" (7 : Nat) ({ cls := "java/lang/RuntimeException", name := "<init>", desc := "(Ljava/lang/String;)V" } : Jvm.MethodName)), (Cond.lays "java/lang/UnsupportedOperationException" "java/lang/Throwable" "depth" "I"), (Cond.superclass "java/lang/UnsupportedOperationException" "java/lang/RuntimeException"), (Cond.classLink "NightfallVillage" (90 : Nat) "java/lang/IllegalStateException"), (Cond.instantiable "java/lang/IllegalStateException" (6 : Nat)), (Cond.castable "java/lang/IllegalStateException" "java/lang/IllegalStateException"), (Cond.selects "java/lang/IllegalStateException" ({ cls := "java/lang/Throwable", name := "fillInStackTrace", desc := "(I)Ljava/lang/Throwable;" } : Jvm.MethodName) ({ cls := "java/lang/Throwable", name := "fillInStackTrace", desc := "(I)Ljava/lang/Throwable;" } : Jvm.MethodName)), (Cond.lays "java/lang/IllegalStateException" "java/lang/Throwable" "cause" "Ljava/lang/Throwable;"), (Cond.lays "java/lang/IllegalStateException" "java/lang/Throwable" "stackTrace" "[Ljava/lang/StackTraceElement;"), (Cond.lays "java/lang/IllegalStateException" "java/lang/Throwable" "suppressedExceptions" "Ljava/util/List;"), (Cond.lays "java/lang/IllegalStateException" "java/lang/Throwable" "detailMessage" "Ljava/lang/String;"), (Cond.lays "java/lang/IllegalStateException" "java/lang/Throwable" "backtrace" "Ljava/lang/Object;"), (Cond.methodLink "NightfallVillage" (94 : Nat) ({ cls := "java/lang/IllegalStateException", name := "<init>", desc := "(Ljava/lang/String;)V" } : Jvm.MethodName)), (Cond.instanceMethod ({ cls := "java/lang/IllegalStateException", name := "<init>", desc := "(Ljava/lang/String;)V" } : Jvm.MethodName)), (Cond.code ({ cls := "java/lang/IllegalStateException", name := "<init>", desc := "(Ljava/lang/String;)V" } : Jvm.MethodName) prog_22_method_2_code (2 : Nat) (Option.none : Option Jvm.ClassFile.FieldType)), (Cond.methodLink "java/lang/IllegalStateException" (7 : Nat) ({ cls := "java/lang/RuntimeException", name := "<init>", desc := "(Ljava/lang/String;)V" } : Jvm.MethodName)), (Cond.lays "java/lang/IllegalStateException" "java/lang/Throwable" "depth" "I"), (Cond.superclass "java/lang/IllegalStateException" "java/lang/RuntimeException"), (Cond.classLink "NightfallVillageLaw" (23 : Nat) "java/lang/IndexOutOfBoundsException"), (Cond.classLink "NightfallVillage" (301 : Nat) "java/lang/IndexOutOfBoundsException"), (Cond.instantiable "java/lang/IndexOutOfBoundsException" (6 : Nat)), (Cond.castable "java/lang/IndexOutOfBoundsException" "java/lang/IndexOutOfBoundsException"), (Cond.selects "java/lang/IndexOutOfBoundsException" ({ cls := "java/lang/Throwable", name := "fillInStackTrace", desc := "(I)Ljava/lang/Throwable;" } : Jvm.MethodName) ({ cls := "java/lang/Throwable", name := "fillInStackTrace", desc := "(I)Ljava/lang/Throwable;" } : Jvm.MethodName)), (Cond.lays "java/lang/IndexOutOfBoundsException" "java/lang/Throwable" "cause" "Ljava/lang/Throwable;"), (Cond.lays "java/lang/IndexOutOfBoundsException" "java/lang/Throwable" "stackTrace" "[Ljava/lang/StackTraceElement;"), (Cond.lays "java/lang/IndexOutOfBoundsException" "java/lang/Throwable" "suppressedExceptions" "Ljava/util/List;"), (Cond.lays "java/lang/IndexOutOfBoundsException" "java/lang/Throwable" "detailMessage" "Ljava/lang/String;"), (Cond.lays "java/lang/IndexOutOfBoundsException" "java/lang/Throwable" "backtrace" "Ljava/lang/Object;"), (Cond.methodLink "NightfallVillage" (305 : Nat) ({ cls := "java/lang/IndexOutOfBoundsException", name := "<init>", desc := "(Ljava/lang/String;)V" } : Jvm.MethodName)), (Cond.instanceMethod ({ cls := "java/lang/IndexOutOfBoundsException", name := "<init>", desc := "(Ljava/lang/String;)V" } : Jvm.MethodName)), (Cond.code ({ cls := "java/lang/IndexOutOfBoundsException", name := "<init>", desc := "(Ljava/lang/String;)V" } : Jvm.MethodName) prog_23_method_2_code (2 : Nat) (Option.none : Option Jvm.ClassFile.FieldType)), (Cond.methodLink "java/lang/IndexOutOfBoundsException" (7 : Nat) ({ cls := "java/lang/RuntimeException", name := "<init>", desc := "(Ljava/lang/String;)V" } : Jvm.MethodName)), (Cond.lays "java/lang/IndexOutOfBoundsException" "java/lang/Throwable" "depth" "I"), (Cond.superclass "java/lang/IndexOutOfBoundsException" "java/lang/RuntimeException"), (Cond.classLink "NightfallVillageLaw" (53 : Nat) "java/util/NoSuchElementException"), (Cond.classLink "NightfallVillage" (200 : Nat) "java/util/NoSuchElementException"), (Cond.instantiable "java/util/NoSuchElementException" (6 : Nat)), (Cond.castable "java/util/NoSuchElementException" "java/util/NoSuchElementException"), (Cond.selects "java/util/NoSuchElementException" ({ cls := "java/lang/Throwable", name := "fillInStackTrace", desc := "(I)Ljava/lang/Throwable;" } : Jvm.MethodName) ({ cls := "java/lang/Throwable", name := "fillInStackTrace", desc := "(I)Ljava/lang/Throwable;" } : Jvm.MethodName)), (Cond.lays "java/util/NoSuchElementException" "java/lang/Throwable" "cause" "Ljava/lang/Throwable;"), (Cond.lays "java/util/NoSuchElementException" "java/lang/Throwable" "stackTrace" "[Ljava/lang/StackTraceElement;"), (Cond.lays "java/util/NoSuchElementException" "java/lang/Throwable" "suppressedExceptions" "Ljava/util/List;"), (Cond.lays "java/util/NoSuchElementException" "java/lang/Throwable" "detailMessage" "Ljava/lang/String;"), (Cond.lays "java/util/NoSuchElementException" "java/lang/Throwable" "backtrace" "Ljava/lang/Object;"), (Cond.methodLink "NightfallVillage" (204 : Nat) ({ cls := "java/util/NoSuchElementException", name := "<init>", desc := "(Ljava/lang/String;)V" } : Jvm.MethodName)), (Cond.instanceMethod ({ cls := "java/util/NoSuchElementException", name := "<init>", desc := "(Ljava/lang/String;)V" } : Jvm.MethodName)), (Cond.code ({ cls := "java/util/NoSuchElementException", name := "<init>", desc := "(Ljava/lang/String;)V" } : Jvm.MethodName) prog_46_method_4_code (2 : Nat) (Option.none : Option Jvm.ClassFile.FieldType)), (Cond.methodLink "java/util/NoSuchElementException" (13 : Nat) ({ cls := "java/lang/RuntimeException", name := "<init>", desc := "(Ljava/lang/String;)V" } : Jvm.MethodName)), (Cond.lays "java/util/NoSuchElementException" "java/lang/Throwable" "depth" "I"), (Cond.superclass "java/util/NoSuchElementException" "java/lang/RuntimeException"), (Cond.selects "java/lang/IllegalArgumentException" ({ cls := "java/lang/Object", name := "getClass", desc := "()Ljava/lang/Class;" } : Jvm.MethodName) ({ cls := "java/lang/Object", name := "getClass", desc := "()Ljava/lang/Class;" } : Jvm.MethodName)), (Cond.selects "java/lang/IllegalStateException" ({ cls := "java/lang/Object", name := "getClass", desc := "()Ljava/lang/Class;" } : Jvm.MethodName) ({ cls := "java/lang/Object", name := "getClass", desc := "()Ljava/lang/Class;" } : Jvm.MethodName)), (Cond.selects "java/lang/IndexOutOfBoundsException" ({ cls := "java/lang/Object", name := "getClass", desc := "()Ljava/lang/Class;" } : Jvm.MethodName) ({ cls := "java/lang/Object", name := "getClass", desc := "()Ljava/lang/Class;" } : Jvm.MethodName)), (Cond.selects "java/lang/UnsupportedOperationException" ({ cls := "java/lang/Object", name := "getClass", desc := "()Ljava/lang/Class;" } : Jvm.MethodName) ({ cls := "java/lang/Object", name := "getClass", desc := "()Ljava/lang/Class;" } : Jvm.MethodName)), (Cond.selects "java/util/NoSuchElementException" ({ cls := "java/lang/Object", name := "getClass", desc := "()Ljava/lang/Class;" } : Jvm.MethodName) ({ cls := "java/lang/Object", name := "getClass", desc := "()Ljava/lang/Class;" } : Jvm.MethodName)), (Cond.classLink "java/util/ArrayList$Itr" (34 : Nat) "java/util/NoSuchElementException"), (Cond.methodLink "java/util/ArrayList$Itr" (36 : Nat) ({ cls := "java/util/NoSuchElementException", name := "<init>", desc := "()V" } : Jvm.MethodName)), (Cond.instanceMethod ({ cls := "java/util/NoSuchElementException", name := "<init>", desc := "()V" } : Jvm.MethodName)), (Cond.code ({ cls := "java/util/NoSuchElementException", name := "<init>", desc := "()V" } : Jvm.MethodName) prog_46_method_1_code (1 : Nat) (Option.none : Option Jvm.ClassFile.FieldType)), (Cond.methodLink "java/util/NoSuchElementException" (1 : Nat) ({ cls := "java/lang/RuntimeException", name := "<init>", desc := "()V" } : Jvm.MethodName)), (Cond.instanceMethod ({ cls := "java/lang/RuntimeException", name := "<init>", desc := "()V" } : Jvm.MethodName)), (Cond.code ({ cls := "java/lang/RuntimeException", name := "<init>", desc := "()V" } : Jvm.MethodName) prog_29_method_1_code (1 : Nat) (Option.none : Option Jvm.ClassFile.FieldType)), (Cond.methodLink "java/lang/RuntimeException" (1 : Nat) ({ cls := "java/lang/Exception", name := "<init>", desc := "()V" } : Jvm.MethodName)), (Cond.instanceMethod ({ cls := "java/lang/Exception", name := "<init>", desc := "()V" } : Jvm.MethodName)), (Cond.code ({ cls := "java/lang/Exception", name := "<init>", desc := "()V" } : Jvm.MethodName) prog_20_method_1_code (1 : Nat) (Option.none : Option Jvm.ClassFile.FieldType)), (Cond.methodLink "java/lang/Exception" (1 : Nat) ({ cls := "java/lang/Throwable", name := "<init>", desc := "()V" } : Jvm.MethodName)), (Cond.sameMethod "java/lang/Throwable" "java/lang/Throwable" "fillInStackTrace" "(I)Ljava/lang/Throwable;")]
theorem thr_eq : thr_all = ([17, 18, 19, 20, 21, 22, 32, 38, 45, 46, 683, 684, 685, 696, 697, 698, 699, 700, 701, 702, 703, 704, 705, 706, 707, 708, 709, 710, 711, 712, 713, 714, 715, 716, 717, 718, 719, 720, 721, 722, 724, 726, 727, 728, 729, 730, 731, 732, 733, 734, 735, 736, 737, 738, 740, 741, 742, 743, 744, 745, 746, 747, 748, 749, 750, 751, 753, 754, 755, 756, 757, 758, 759, 760, 761, 762, 763, 764, 770, 771, 772, 773, 774, 775, 776, 777, 778, 780, 781, 782, 783, 784, 785, 786, 787, 788, 789, 790, 791, 792, 793, 794, 796, 797, 798, 799, 800, 801, 809, 819, 820, 821, 822, 823, 824, 825, 826, 827, 829, 830, 831, 832, 833, 834, 957, 962, 963, 964, 965, 966, 967, 968, 969, 970, 972, 973, 974, 975, 976, 977, 1572, 1573, 1574, 1576, 1579, 1757, 1758, 1759, 1760, 1761, 1762, 1763, 1764, 1765, 1766, 1767, 1998] : List Nat).filterMap (fun i => tables_1[i]?) := by decide +kernel
theorem thr_ok : thr_all.all ok_w = true := by decide +kernel
theorem thr_in {w : Cond} (h : decide (w ∈ thr_all) = true) : w ∈ tw := by
  have h0 : w ∈ thr_all := of_decide_eq_true h
  have h1 := List.all_eq_true.mp thr_ok w h0
  rw [thr_eq] at h0
  obtain ⟨i, -, hi⟩ := List.mem_filterMap.mp h0
  exact tw_in (i := i) hi h1
end
section
abbrev cX5_init : ByteArray := prog_7_method_1_code
def yX5_init : MethodName := ⟨RX5, "<init>", "()V"⟩
theorem dX5_init_0 : decode cX5_init 0 = .ok (.aload_n 0, 1) := by decide +kernel
theorem dX5_init_1 : decode cX5_init 1 = .ok (.invokespecial 3, 3) := by decide +kernel
theorem q_242 : (Cond.methodLink "NightfallVillage$History" 3 objectInit) ∈ tw := tw_in (i := 242) (by decide +kernel) (by decide +kernel)
theorem q_45 : (Cond.instanceMethod objectInit) ∈ tw := tw_in (i := 45) (by decide +kernel) (by decide +kernel)
theorem q_46 : (Cond.code objectInit ⟨#[0xb1]⟩ 1 none) ∈ tw := tw_in (i := 46) (by decide +kernel) (by decide +kernel)
theorem dX5_init_4 : decode cX5_init 4 = .ok (.aload_n 0, 1) := by decide +kernel
theorem dX5_init_5 : decode cX5_init 5 = .ok (.sipush 512, 3) := by decide +kernel
theorem dX5_init_8 : decode cX5_init 8 = .ok (.newarray .int, 2) := by decide +kernel
theorem q_81 : (Cond.arrayClass Jvm.ClassFile.FieldType.int) ∈ tw := tw_in (i := 81) (by decide +kernel) (by decide +kernel)
theorem dX5_init_10 : decode cX5_init 10 = .ok (.putfield 9, 3) := by decide +kernel
theorem q_243 : (Cond.fieldLink "NightfallVillage$History" 9 "NightfallVillage$History" "entries" "[I") ∈ tw := tw_in (i := 243) (by decide +kernel) (by decide +kernel)
theorem dX5_init_13 : decode cX5_init 13 = .ok (.return_, 1) := by decide +kernel
set_option maxHeartbeats 4000000 in
set_option maxRecDepth 100000 in
/-- History(): ends -/
theorem c_History_init (l : Launch) (hst : l.stackTraces = false) (tE : Nat) (adK adV : Nat → Nat) (dC : Nat → ClassId) (dI : Nat → Nat → Nat) (h0 : Nat) (sz : Nat) : Met l yX5_init (Cond.code yX5_init cX5_init 1 none :: tw) ({ frames := 1, cells := 1, slots := 512, locals := 12 }) (va_Pc [.ref h0] (pre tE adK adV (dC, dI) [(h0, .inr (5, [.null, .int 0]))] [] sz)) (va_Qv (fun (_ : Unit) => True) (fun (_ : Unit) (_ : State) => True) (va_A [(h0, .inr (5, [.null, .int 0]))] sz)) 1 512 (va_A [(h0, .inr (5, [.null, .int 0]))] sz) := by
  refine Met.ofW (cc := cX5_init) (maxL := 1) (ret := none) (by decide) rfl ?_
  intro p e s m args below meth c s₁ B hml hv
  obtain ⟨rfl, hsz, hP, hK, hD0, ham⟩ := hv
  have hx := B.exec
  have hb := B.bytes
  have hr := B.returns
  have hts := atoms_spec B.pre
  have hq : ∀ w ∈ tw, w.before _ s = true := fun w h => hts w (List.mem_cons_of_mem _ h)
  have hown : s.vm.findClass RX5 = some m.cls := findClass_of_methodNamed B.named
  have hlocks := B.notSynchronized
  have hin : meth.name = "<init>" := (name_of_methodNamed B.named B.method).1
  subst hsz
  have hD := hD0.self (sz := s.heap.size)
  generalize hAe : va_A [(h0, .inr (5, [.null, .int 0]))] s.heap.size = A at hD ham ⊢
  have hA : ∀ q : Nat, s.heap.size ≤ q → A q := fun q h => by rw [← hAe]; exact Or.inr h
  have hS : va_S A s.heap s.heap [] := va_S.rf
  have hP : va_P (dC, dI) cls [(h0, .inr (5, [.null, .int 0]))] s.heap := hP
  have hl := lv_entry ([.ref h0]) (n := 1) (Nat.le_of_ble_eq_true rfl)
  rw [lg_entry_eq]
  generalize (lg_sl ([.ref h0]) ++ List.replicate (1 - (lg_sl ([.ref h0])).length) Slot.unset).toArray = ls at hl ⊢
  have hl : lv_has ls 1 [(0, .ref h0)] := hl
  refine lv_aload_n hx hb dX5_init_0 rfl (lv_at hl 0 rfl) ?_
  refine W.objInit hx hb hown (hq _ q_242) (hq _ q_45) (hq _ q_46) rfl (by rw [hml]; exact hl.1) rfl dX5_init_1 (Nat.le_of_ble_eq_true rfl) (Nat.le_of_ble_eq_true rfl) ?_
  refine W.eq (g2 := F0 m 4 ls []) rfl ?_
  refine lv_aload_n hx hb dX5_init_4 rfl (lv_at hl 0 rfl) ?_
  refine lv_sipush (v := 512) hx hb dX5_init_5 (by decide) ?_
  refine va_newa (atype := .int) (a0 := (512, .inl (fun _ => 0))) hx hb (hq _ q_81) rfl hK hP hD hS hA (fun _ => rfl) (by decide) (by decide) (Nat.le_of_ble_eq_true rfl) (Nat.le_of_ble_eq_true rfl) (Nat.le_of_ble_eq_true rfl) dX5_init_8 (fun a_1 cA_2 H hK hP hD hS => ?_)
  have hP : va_P (dC, dI) cls [(h0, .inr (5, [.null, .int 0])), (a_1, .inl (cA_2, 512, .inl (fun _ => 0)))] H := hP
  have hD : va_D A [(h0, .inr (5, [.null, .int 0])), (a_1, .inl (cA_2, 512, .inl (fun _ => 0)))] := hD
  have hK : va_K (dC, dI) cls [(cA_2, .int)] s := hK
  refine W.widen (k := 1) (n := 512) (Nat.le_of_ble_eq_true rfl) (Nat.le_of_ble_eq_true rfl) ?_
  refine va_putF (D := (dC, dI)) (ci := 5) (v := .ref a_1) (ty := (.array .int)) (C := RX5) (T := TX5) (N := 2) hx hb hq i_X5 tyX5 tyX5_ok nmX5 hown hK hP hD hS 0 rfl rfl 0 (by decide) (hq _ q_243) (fun _ h9 => h9) rfl hin rfl (by decide +kernel) rfl rfl (Nat.le_of_ble_eq_true rfl) dX5_init_10 (fun H locs hP hD hS => ?_)
  have hP : va_P (dC, dI) cls [(h0, .inr (5, [.ref a_1, .int 0])), (a_1, .inl (cA_2, 512, .inl (fun _ => 0)))] H := hP
  have hD : va_D A [(h0, .inr (5, [.ref a_1, .int 0])), (a_1, .inl (cA_2, 512, .inl (fun _ => 0)))] := hD
  refine W.widen (k := 1) (n := 512) (Nat.le_of_ble_eq_true rfl) (Nat.le_of_ble_eq_true rfl) ?_
  exact W.vret hx hb hr (fun t ht hW => ⟨⟨(), rfl, trivial, trivial⟩, hS.F ht⟩) hS.2.2 dX5_init_13
abbrev cX0_init : ByteArray := prog_2_method_1_code
def yX0_init : MethodName := ⟨RX0, "<init>", "()V"⟩
theorem dX0_init_0 : decode cX0_init 0 = .ok (.aload_n 0, 1) := by decide +kernel
theorem dX0_init_1 : decode cX0_init 1 = .ok (.invokespecial 3, 3) := by decide +kernel
theorem q_276 : (Cond.methodLink "NightfallVillage$Claims" 3 objectInit) ∈ tw := tw_in (i := 276) (by decide +kernel) (by decide +kernel)
theorem dX0_init_4 : decode cX0_init 4 = .ok (.aload_n 0, 1) := by decide +kernel
theorem dX0_init_5 : decode cX0_init 5 = .ok (.bipush 30, 2) := by decide +kernel
theorem dX0_init_7 : decode cX0_init 7 = .ok (.newarray .int, 2) := by decide +kernel
theorem dX0_init_9 : decode cX0_init 9 = .ok (.putfield 9, 3) := by decide +kernel
theorem q_277 : (Cond.fieldLink "NightfallVillage$Claims" 9 "NightfallVillage$Claims" "claimers" "[I") ∈ tw := tw_in (i := 277) (by decide +kernel) (by decide +kernel)
theorem dX0_init_12 : decode cX0_init 12 = .ok (.aload_n 0, 1) := by decide +kernel
theorem dX0_init_13 : decode cX0_init 13 = .ok (.bipush 30, 2) := by decide +kernel
theorem dX0_init_15 : decode cX0_init 15 = .ok (.newarray .int, 2) := by decide +kernel
theorem dX0_init_17 : decode cX0_init 17 = .ok (.putfield 15, 3) := by decide +kernel
theorem q_278 : (Cond.fieldLink "NightfallVillage$Claims" 15 "NightfallVillage$Claims" "subjects" "[I") ∈ tw := tw_in (i := 278) (by decide +kernel) (by decide +kernel)
theorem dX0_init_20 : decode cX0_init 20 = .ok (.aload_n 0, 1) := by decide +kernel
theorem dX0_init_21 : decode cX0_init 21 = .ok (.bipush 30, 2) := by decide +kernel
theorem dX0_init_23 : decode cX0_init 23 = .ok (.newarray .char, 2) := by decide +kernel
theorem q_80 : (Cond.arrayClass Jvm.ClassFile.FieldType.char) ∈ tw := tw_in (i := 80) (by decide +kernel) (by decide +kernel)
theorem dX0_init_25 : decode cX0_init 25 = .ok (.putfield 18, 3) := by decide +kernel
theorem q_279 : (Cond.fieldLink "NightfallVillage$Claims" 18 "NightfallVillage$Claims" "sides" "[C") ∈ tw := tw_in (i := 279) (by decide +kernel) (by decide +kernel)
theorem dX0_init_28 : decode cX0_init 28 = .ok (.return_, 1) := by decide +kernel
set_option maxHeartbeats 4000000 in
set_option maxRecDepth 100000 in
/-- Claims(): ends -/
theorem c_Claims_init (l : Launch) (hst : l.stackTraces = false) (tE : Nat) (adK adV : Nat → Nat) (dC : Nat → ClassId) (dI : Nat → Nat → Nat) (h0 : Nat) (sz : Nat) : Met l yX0_init (Cond.code yX0_init cX0_init 1 none :: tw) ({ frames := 1, cells := 3, slots := 90, locals := 12 }) (va_Pc [.ref h0] (pre tE adK adV (dC, dI) [(h0, .inr (0, [.null, .null, .null, .int 0]))] [] sz)) (va_Qv (fun (_ : Unit) => True) (fun (_ : Unit) (_ : State) => True) (va_A [(h0, .inr (0, [.null, .null, .null, .int 0]))] sz)) 3 90 (va_A [(h0, .inr (0, [.null, .null, .null, .int 0]))] sz) := by
  refine Met.ofW (cc := cX0_init) (maxL := 1) (ret := none) (by decide) rfl ?_
  intro p e s m args below meth c s₁ B hml hv
  obtain ⟨rfl, hsz, hP, hK, hD0, ham⟩ := hv
  have hx := B.exec
  have hb := B.bytes
  have hr := B.returns
  have hts := atoms_spec B.pre
  have hq : ∀ w ∈ tw, w.before _ s = true := fun w h => hts w (List.mem_cons_of_mem _ h)
  have hown : s.vm.findClass RX0 = some m.cls := findClass_of_methodNamed B.named
  have hlocks := B.notSynchronized
  have hin : meth.name = "<init>" := (name_of_methodNamed B.named B.method).1
  subst hsz
  have hD := hD0.self (sz := s.heap.size)
  generalize hAe : va_A [(h0, .inr (0, [.null, .null, .null, .int 0]))] s.heap.size = A at hD ham ⊢
  have hA : ∀ q : Nat, s.heap.size ≤ q → A q := fun q h => by rw [← hAe]; exact Or.inr h
  have hS : va_S A s.heap s.heap [] := va_S.rf
  have hP : va_P (dC, dI) cls [(h0, .inr (0, [.null, .null, .null, .int 0]))] s.heap := hP
  have hl := lv_entry ([.ref h0]) (n := 1) (Nat.le_of_ble_eq_true rfl)
  rw [lg_entry_eq]
  generalize (lg_sl ([.ref h0]) ++ List.replicate (1 - (lg_sl ([.ref h0])).length) Slot.unset).toArray = ls at hl ⊢
  have hl : lv_has ls 1 [(0, .ref h0)] := hl
  refine lv_aload_n hx hb dX0_init_0 rfl (lv_at hl 0 rfl) ?_
  refine W.objInit hx hb hown (hq _ q_276) (hq _ q_45) (hq _ q_46) rfl (by rw [hml]; exact hl.1) rfl dX0_init_1 (Nat.le_of_ble_eq_true rfl) (Nat.le_of_ble_eq_true rfl) ?_
  refine W.eq (g2 := F0 m 4 ls []) rfl ?_
  refine lv_aload_n hx hb dX0_init_4 rfl (lv_at hl 0 rfl) ?_
  refine lv_bipush (v := 30) hx hb dX0_init_5 (by decide) ?_
  refine va_newa (atype := .int) (a0 := (30, .inl (fun _ => 0))) hx hb (hq _ q_81) rfl hK hP hD hS hA (fun _ => rfl) (by decide) (by decide) (Nat.le_of_ble_eq_true rfl) (Nat.le_of_ble_eq_true rfl) (Nat.le_of_ble_eq_true rfl) dX0_init_7 (fun a_1 cA_2 H hK hP hD hS => ?_)
  have hP : va_P (dC, dI) cls [(h0, .inr (0, [.null, .null, .null, .int 0])), (a_1, .inl (cA_2, 30, .inl (fun _ => 0)))] H := hP
  have hD : va_D A [(h0, .inr (0, [.null, .null, .null, .int 0])), (a_1, .inl (cA_2, 30, .inl (fun _ => 0)))] := hD
  have hK : va_K (dC, dI) cls [(cA_2, .int)] s := hK
  refine W.widen (k := 1) (n := 30) (Nat.le_of_ble_eq_true rfl) (Nat.le_of_ble_eq_true rfl) ?_
  refine va_putF (D := (dC, dI)) (ci := 0) (v := .ref a_1) (ty := (.array .int)) (C := RX0) (T := TX0) (N := 4) hx hb hq i_X0 tyX0 tyX0_ok nmX0 hown hK hP hD hS 0 rfl rfl 0 (by decide) (hq _ q_277) (fun _ h9 => h9) rfl hin rfl (by decide +kernel) rfl rfl (Nat.le_of_ble_eq_true rfl) dX0_init_9 (fun H locs hP hD hS => ?_)
  have hP : va_P (dC, dI) cls [(h0, .inr (0, [.ref a_1, .null, .null, .int 0])), (a_1, .inl (cA_2, 30, .inl (fun _ => 0)))] H := hP
  have hD : va_D A [(h0, .inr (0, [.ref a_1, .null, .null, .int 0])), (a_1, .inl (cA_2, 30, .inl (fun _ => 0)))] := hD
  refine lv_aload_n hx hb dX0_init_12 rfl (lv_at hl 0 rfl) ?_
  refine lv_bipush (v := 30) hx hb dX0_init_13 (by decide) ?_
  refine va_newa (atype := .int) (a0 := (30, .inl (fun _ => 0))) hx hb (hq _ q_81) rfl hK hP hD hS hA (fun _ => rfl) (by decide) (by decide) (Nat.le_of_ble_eq_true rfl) (Nat.le_of_ble_eq_true rfl) (Nat.le_of_ble_eq_true rfl) dX0_init_15 (fun a_3 cA_4 H hK hP hD hS => ?_)
  have hP : va_P (dC, dI) cls [(h0, .inr (0, [.ref a_1, .null, .null, .int 0])), (a_1, .inl (cA_2, 30, .inl (fun _ => 0))), (a_3, .inl (cA_4, 30, .inl (fun _ => 0)))] H := hP
  have hD : va_D A [(h0, .inr (0, [.ref a_1, .null, .null, .int 0])), (a_1, .inl (cA_2, 30, .inl (fun _ => 0))), (a_3, .inl (cA_4, 30, .inl (fun _ => 0)))] := hD
  have hK : va_K (dC, dI) cls [(cA_2, .int), (cA_4, .int)] s := hK
  refine W.widen (k := 2) (n := 60) (Nat.le_of_ble_eq_true rfl) (Nat.le_of_ble_eq_true rfl) ?_
  refine va_putF (D := (dC, dI)) (ci := 0) (v := .ref a_3) (ty := (.array .int)) (C := RX0) (T := TX0) (N := 4) hx hb hq i_X0 tyX0 tyX0_ok nmX0 hown hK hP hD hS 0 rfl rfl 1 (by decide) (hq _ q_278) (fun _ h9 => h9) rfl hin rfl (by decide +kernel) rfl rfl (Nat.le_of_ble_eq_true rfl) dX0_init_17 (fun H locs hP hD hS => ?_)
  have hP : va_P (dC, dI) cls [(h0, .inr (0, [.ref a_1, .ref a_3, .null, .int 0])), (a_1, .inl (cA_2, 30, .inl (fun _ => 0))), (a_3, .inl (cA_4, 30, .inl (fun _ => 0)))] H := hP
  have hD : va_D A [(h0, .inr (0, [.ref a_1, .ref a_3, .null, .int 0])), (a_1, .inl (cA_2, 30, .inl (fun _ => 0))), (a_3, .inl (cA_4, 30, .inl (fun _ => 0)))] := hD
  refine lv_aload_n hx hb dX0_init_20 rfl (lv_at hl 0 rfl) ?_
  refine lv_bipush (v := 30) hx hb dX0_init_21 (by decide) ?_
  refine va_newa (atype := .char) (a0 := (30, .inl (fun _ => 0))) hx hb (hq _ q_80) rfl hK hP hD hS hA (fun _ => rfl) (by decide) (by decide) (Nat.le_of_ble_eq_true rfl) (Nat.le_of_ble_eq_true rfl) (Nat.le_of_ble_eq_true rfl) dX0_init_23 (fun a_5 cA_6 H hK hP hD hS => ?_)
  have hP : va_P (dC, dI) cls [(h0, .inr (0, [.ref a_1, .ref a_3, .null, .int 0])), (a_1, .inl (cA_2, 30, .inl (fun _ => 0))), (a_3, .inl (cA_4, 30, .inl (fun _ => 0))), (a_5, .inl (cA_6, 30, .inl (fun _ => 0)))] H := hP
  have hD : va_D A [(h0, .inr (0, [.ref a_1, .ref a_3, .null, .int 0])), (a_1, .inl (cA_2, 30, .inl (fun _ => 0))), (a_3, .inl (cA_4, 30, .inl (fun _ => 0))), (a_5, .inl (cA_6, 30, .inl (fun _ => 0)))] := hD
  have hK : va_K (dC, dI) cls [(cA_2, .int), (cA_4, .int), (cA_6, .char)] s := hK
  refine W.widen (k := 3) (n := 90) (Nat.le_of_ble_eq_true rfl) (Nat.le_of_ble_eq_true rfl) ?_
  refine va_putF (D := (dC, dI)) (ci := 0) (v := .ref a_5) (ty := (.array .char)) (C := RX0) (T := TX0) (N := 4) hx hb hq i_X0 tyX0 tyX0_ok nmX0 hown hK hP hD hS 0 rfl rfl 2 (by decide) (hq _ q_279) (fun _ h9 => h9) rfl hin rfl (by decide +kernel) rfl rfl (Nat.le_of_ble_eq_true rfl) dX0_init_25 (fun H locs hP hD hS => ?_)
  have hP : va_P (dC, dI) cls [(h0, .inr (0, [.ref a_1, .ref a_3, .ref a_5, .int 0])), (a_1, .inl (cA_2, 30, .inl (fun _ => 0))), (a_3, .inl (cA_4, 30, .inl (fun _ => 0))), (a_5, .inl (cA_6, 30, .inl (fun _ => 0)))] H := hP
  have hD : va_D A [(h0, .inr (0, [.ref a_1, .ref a_3, .ref a_5, .int 0])), (a_1, .inl (cA_2, 30, .inl (fun _ => 0))), (a_3, .inl (cA_4, 30, .inl (fun _ => 0))), (a_5, .inl (cA_6, 30, .inl (fun _ => 0)))] := hD
  refine W.widen (k := 3) (n := 90) (Nat.le_of_ble_eq_true rfl) (Nat.le_of_ble_eq_true rfl) ?_
  exact W.vret hx hb hr (fun t ht hW => ⟨⟨(), rfl, trivial, trivial⟩, hS.F ht⟩) hS.2.2 dX0_init_28
abbrev cX8_init : ByteArray := prog_10_method_1_code
def yX8_init : MethodName := ⟨RX8, "<init>", "()V"⟩
theorem dX8_init_0 : decode cX8_init 0 = .ok (.aload_n 0, 1) := by decide +kernel
theorem dX8_init_1 : decode cX8_init 1 = .ok (.invokespecial 3, 3) := by decide +kernel
theorem q_256 : (Cond.methodLink "NightfallVillage$Sights" 3 objectInit) ∈ tw := tw_in (i := 256) (by decide +kernel) (by decide +kernel)
theorem dX8_init_4 : decode cX8_init 4 = .ok (.aload_n 0, 1) := by decide +kernel
theorem dX8_init_5 : decode cX8_init 5 = .ok (.sipush 1792, 3) := by decide +kernel
theorem dX8_init_8 : decode cX8_init 8 = .ok (.newarray .char, 2) := by decide +kernel
theorem dX8_init_10 : decode cX8_init 10 = .ok (.putfield 9, 3) := by decide +kernel
theorem q_257 : (Cond.fieldLink "NightfallVillage$Sights" 9 "NightfallVillage$Sights" "tellings" "[C") ∈ tw := tw_in (i := 257) (by decide +kernel) (by decide +kernel)
theorem dX8_init_13 : decode cX8_init 13 = .ok (.aload_n 0, 1) := by decide +kernel
theorem dX8_init_14 : decode cX8_init 14 = .ok (.sipush 1792, 3) := by decide +kernel
theorem dX8_init_17 : decode cX8_init 17 = .ok (.newarray .int, 2) := by decide +kernel
theorem dX8_init_19 : decode cX8_init 19 = .ok (.putfield 15, 3) := by decide +kernel
theorem q_258 : (Cond.fieldLink "NightfallVillage$Sights" 15 "NightfallVillage$Sights" "shown" "[I") ∈ tw := tw_in (i := 258) (by decide +kernel) (by decide +kernel)
theorem dX8_init_22 : decode cX8_init 22 = .ok (.aload_n 0, 1) := by decide +kernel
theorem dX8_init_23 : decode cX8_init 23 = .ok (.bipush 98, 2) := by decide +kernel
theorem dX8_init_25 : decode cX8_init 25 = .ok (.newarray .int, 2) := by decide +kernel
theorem dX8_init_27 : decode cX8_init 27 = .ok (.putfield 19, 3) := by decide +kernel
theorem q_259 : (Cond.fieldLink "NightfallVillage$Sights" 19 "NightfallVillage$Sights" "livingAsTold" "[I") ∈ tw := tw_in (i := 259) (by decide +kernel) (by decide +kernel)
theorem dX8_init_30 : decode cX8_init 30 = .ok (.return_, 1) := by decide +kernel
set_option maxHeartbeats 4000000 in
set_option maxRecDepth 100000 in
/-- Sights(): ends -/
theorem c_Sights_init (l : Launch) (hst : l.stackTraces = false) (tE : Nat) (adK adV : Nat → Nat) (dC : Nat → ClassId) (dI : Nat → Nat → Nat) (h0 : Nat) (sz : Nat) : Met l yX8_init (Cond.code yX8_init cX8_init 1 none :: tw) ({ frames := 1, cells := 3, slots := 3682, locals := 12 }) (va_Pc [.ref h0] (pre tE adK adV (dC, dI) [(h0, .inr (8, [.null, .null, .null, .int 0]))] [] sz)) (va_Qv (fun (_ : Unit) => True) (fun (_ : Unit) (_ : State) => True) (va_A [(h0, .inr (8, [.null, .null, .null, .int 0]))] sz)) 3 3682 (va_A [(h0, .inr (8, [.null, .null, .null, .int 0]))] sz) := by
  refine Met.ofW (cc := cX8_init) (maxL := 1) (ret := none) (by decide) rfl ?_
  intro p e s m args below meth c s₁ B hml hv
  obtain ⟨rfl, hsz, hP, hK, hD0, ham⟩ := hv
  have hx := B.exec
  have hb := B.bytes
  have hr := B.returns
  have hts := atoms_spec B.pre
  have hq : ∀ w ∈ tw, w.before _ s = true := fun w h => hts w (List.mem_cons_of_mem _ h)
  have hown : s.vm.findClass RX8 = some m.cls := findClass_of_methodNamed B.named
  have hlocks := B.notSynchronized
  have hin : meth.name = "<init>" := (name_of_methodNamed B.named B.method).1
  subst hsz
  have hD := hD0.self (sz := s.heap.size)
  generalize hAe : va_A [(h0, .inr (8, [.null, .null, .null, .int 0]))] s.heap.size = A at hD ham ⊢
  have hA : ∀ q : Nat, s.heap.size ≤ q → A q := fun q h => by rw [← hAe]; exact Or.inr h
  have hS : va_S A s.heap s.heap [] := va_S.rf
  have hP : va_P (dC, dI) cls [(h0, .inr (8, [.null, .null, .null, .int 0]))] s.heap := hP
  have hl := lv_entry ([.ref h0]) (n := 1) (Nat.le_of_ble_eq_true rfl)
  rw [lg_entry_eq]
  generalize (lg_sl ([.ref h0]) ++ List.replicate (1 - (lg_sl ([.ref h0])).length) Slot.unset).toArray = ls at hl ⊢
  have hl : lv_has ls 1 [(0, .ref h0)] := hl
  refine lv_aload_n hx hb dX8_init_0 rfl (lv_at hl 0 rfl) ?_
  refine W.objInit hx hb hown (hq _ q_256) (hq _ q_45) (hq _ q_46) rfl (by rw [hml]; exact hl.1) rfl dX8_init_1 (Nat.le_of_ble_eq_true rfl) (Nat.le_of_ble_eq_true rfl) ?_
  refine W.eq (g2 := F0 m 4 ls []) rfl ?_
  refine lv_aload_n hx hb dX8_init_4 rfl (lv_at hl 0 rfl) ?_
  refine lv_sipush (v := 1792) hx hb dX8_init_5 (by decide) ?_
  refine va_newa (atype := .char) (a0 := (1792, .inl (fun _ => 0))) hx hb (hq _ q_80) rfl hK hP hD hS hA (fun _ => rfl) (by decide) (by decide) (Nat.le_of_ble_eq_true rfl) (Nat.le_of_ble_eq_true rfl) (Nat.le_of_ble_eq_true rfl) dX8_init_8 (fun a_1 cA_2 H hK hP hD hS => ?_)
  have hP : va_P (dC, dI) cls [(h0, .inr (8, [.null, .null, .null, .int 0])), (a_1, .inl (cA_2, 1792, .inl (fun _ => 0)))] H := hP
  have hD : va_D A [(h0, .inr (8, [.null, .null, .null, .int 0])), (a_1, .inl (cA_2, 1792, .inl (fun _ => 0)))] := hD
  have hK : va_K (dC, dI) cls [(cA_2, .char)] s := hK
  refine W.widen (k := 1) (n := 1792) (Nat.le_of_ble_eq_true rfl) (Nat.le_of_ble_eq_true rfl) ?_
  refine va_putF (D := (dC, dI)) (ci := 8) (v := .ref a_1) (ty := (.array .char)) (C := RX8) (T := TX8) (N := 4) hx hb hq i_X8 tyX8 tyX8_ok nmX8 hown hK hP hD hS 0 rfl rfl 0 (by decide) (hq _ q_257) (fun _ h9 => h9) rfl hin rfl (by decide +kernel) rfl rfl (Nat.le_of_ble_eq_true rfl) dX8_init_10 (fun H locs hP hD hS => ?_)
  have hP : va_P (dC, dI) cls [(h0, .inr (8, [.ref a_1, .null, .null, .int 0])), (a_1, .inl (cA_2, 1792, .inl (fun _ => 0)))] H := hP
  have hD : va_D A [(h0, .inr (8, [.ref a_1, .null, .null, .int 0])), (a_1, .inl (cA_2, 1792, .inl (fun _ => 0)))] := hD
  refine lv_aload_n hx hb dX8_init_13 rfl (lv_at hl 0 rfl) ?_
  refine lv_sipush (v := 1792) hx hb dX8_init_14 (by decide) ?_
  refine va_newa (atype := .int) (a0 := (1792, .inl (fun _ => 0))) hx hb (hq _ q_81) rfl hK hP hD hS hA (fun _ => rfl) (by decide) (by decide) (Nat.le_of_ble_eq_true rfl) (Nat.le_of_ble_eq_true rfl) (Nat.le_of_ble_eq_true rfl) dX8_init_17 (fun a_3 cA_4 H hK hP hD hS => ?_)
  have hP : va_P (dC, dI) cls [(h0, .inr (8, [.ref a_1, .null, .null, .int 0])), (a_1, .inl (cA_2, 1792, .inl (fun _ => 0))), (a_3, .inl (cA_4, 1792, .inl (fun _ => 0)))] H := hP
  have hD : va_D A [(h0, .inr (8, [.ref a_1, .null, .null, .int 0])), (a_1, .inl (cA_2, 1792, .inl (fun _ => 0))), (a_3, .inl (cA_4, 1792, .inl (fun _ => 0)))] := hD
  have hK : va_K (dC, dI) cls [(cA_2, .char), (cA_4, .int)] s := hK
  refine W.widen (k := 2) (n := 3584) (Nat.le_of_ble_eq_true rfl) (Nat.le_of_ble_eq_true rfl) ?_
  refine va_putF (D := (dC, dI)) (ci := 8) (v := .ref a_3) (ty := (.array .int)) (C := RX8) (T := TX8) (N := 4) hx hb hq i_X8 tyX8 tyX8_ok nmX8 hown hK hP hD hS 0 rfl rfl 1 (by decide) (hq _ q_258) (fun _ h9 => h9) rfl hin rfl (by decide +kernel) rfl rfl (Nat.le_of_ble_eq_true rfl) dX8_init_19 (fun H locs hP hD hS => ?_)
  have hP : va_P (dC, dI) cls [(h0, .inr (8, [.ref a_1, .ref a_3, .null, .int 0])), (a_1, .inl (cA_2, 1792, .inl (fun _ => 0))), (a_3, .inl (cA_4, 1792, .inl (fun _ => 0)))] H := hP
  have hD : va_D A [(h0, .inr (8, [.ref a_1, .ref a_3, .null, .int 0])), (a_1, .inl (cA_2, 1792, .inl (fun _ => 0))), (a_3, .inl (cA_4, 1792, .inl (fun _ => 0)))] := hD
  refine lv_aload_n hx hb dX8_init_22 rfl (lv_at hl 0 rfl) ?_
  refine lv_bipush (v := 98) hx hb dX8_init_23 (by decide) ?_
  refine va_newa (atype := .int) (a0 := (98, .inl (fun _ => 0))) hx hb (hq _ q_81) rfl hK hP hD hS hA (fun _ => rfl) (by decide) (by decide) (Nat.le_of_ble_eq_true rfl) (Nat.le_of_ble_eq_true rfl) (Nat.le_of_ble_eq_true rfl) dX8_init_25 (fun a_5 cA_6 H hK hP hD hS => ?_)
  have hP : va_P (dC, dI) cls [(h0, .inr (8, [.ref a_1, .ref a_3, .null, .int 0])), (a_1, .inl (cA_2, 1792, .inl (fun _ => 0))), (a_3, .inl (cA_4, 1792, .inl (fun _ => 0))), (a_5, .inl (cA_6, 98, .inl (fun _ => 0)))] H := hP
  have hD : va_D A [(h0, .inr (8, [.ref a_1, .ref a_3, .null, .int 0])), (a_1, .inl (cA_2, 1792, .inl (fun _ => 0))), (a_3, .inl (cA_4, 1792, .inl (fun _ => 0))), (a_5, .inl (cA_6, 98, .inl (fun _ => 0)))] := hD
  have hK : va_K (dC, dI) cls [(cA_2, .char), (cA_4, .int), (cA_6, .int)] s := hK
  refine W.widen (k := 3) (n := 3682) (Nat.le_of_ble_eq_true rfl) (Nat.le_of_ble_eq_true rfl) ?_
  refine va_putF (D := (dC, dI)) (ci := 8) (v := .ref a_5) (ty := (.array .int)) (C := RX8) (T := TX8) (N := 4) hx hb hq i_X8 tyX8 tyX8_ok nmX8 hown hK hP hD hS 0 rfl rfl 2 (by decide) (hq _ q_259) (fun _ h9 => h9) rfl hin rfl (by decide +kernel) rfl rfl (Nat.le_of_ble_eq_true rfl) dX8_init_27 (fun H locs hP hD hS => ?_)
  have hP : va_P (dC, dI) cls [(h0, .inr (8, [.ref a_1, .ref a_3, .ref a_5, .int 0])), (a_1, .inl (cA_2, 1792, .inl (fun _ => 0))), (a_3, .inl (cA_4, 1792, .inl (fun _ => 0))), (a_5, .inl (cA_6, 98, .inl (fun _ => 0)))] H := hP
  have hD : va_D A [(h0, .inr (8, [.ref a_1, .ref a_3, .ref a_5, .int 0])), (a_1, .inl (cA_2, 1792, .inl (fun _ => 0))), (a_3, .inl (cA_4, 1792, .inl (fun _ => 0))), (a_5, .inl (cA_6, 98, .inl (fun _ => 0)))] := hD
  refine W.widen (k := 3) (n := 3682) (Nat.le_of_ble_eq_true rfl) (Nat.le_of_ble_eq_true rfl) ?_
  exact W.vret hx hb hr (fun t ht hW => ⟨⟨(), rfl, trivial, trivial⟩, hS.F ht⟩) hS.2.2 dX8_init_30
abbrev cX1_init : ByteArray := prog_3_method_1_code
def yX1_init : MethodName := ⟨RX1, "<init>", "()V"⟩
theorem dX1_init_0 : decode cX1_init 0 = .ok (.aload_n 0, 1) := by decide +kernel
theorem dX1_init_1 : decode cX1_init 1 = .ok (.invokespecial 3, 3) := by decide +kernel
theorem q_200 : (Cond.methodLink "NightfallVillage$Day" 3 objectInit) ∈ tw := tw_in (i := 200) (by decide +kernel) (by decide +kernel)
theorem dX1_init_4 : decode cX1_init 4 = .ok (.aload_n 0, 1) := by decide +kernel
theorem dX1_init_5 : decode cX1_init 5 = .ok (.bipush 7, 2) := by decide +kernel
theorem dX1_init_7 : decode cX1_init 7 = .ok (.newarray .int, 2) := by decide +kernel
theorem dX1_init_9 : decode cX1_init 9 = .ok (.putfield 9, 3) := by decide +kernel
theorem q_201 : (Cond.fieldLink "NightfallVillage$Day" 9 "NightfallVillage$Day" "ballots" "[I") ∈ tw := tw_in (i := 201) (by decide +kernel) (by decide +kernel)
theorem dX1_init_12 : decode cX1_init 12 = .ok (.aload_n 0, 1) := by decide +kernel
theorem dX1_init_13 : decode cX1_init 13 = .ok (.bipush 7, 2) := by decide +kernel
theorem dX1_init_15 : decode cX1_init 15 = .ok (.newarray .int, 2) := by decide +kernel
theorem dX1_init_17 : decode cX1_init 17 = .ok (.putfield 15, 3) := by decide +kernel
theorem q_202 : (Cond.fieldLink "NightfallVillage$Day" 15 "NightfallVillage$Day" "ghostDays" "[I") ∈ tw := tw_in (i := 202) (by decide +kernel) (by decide +kernel)
theorem dX1_init_20 : decode cX1_init 20 = .ok (.return_, 1) := by decide +kernel
set_option maxHeartbeats 4000000 in
set_option maxRecDepth 100000 in
/-- Day(): ends -/
theorem c_Day_init (l : Launch) (hst : l.stackTraces = false) (tE : Nat) (adK adV : Nat → Nat) (dC : Nat → ClassId) (dI : Nat → Nat → Nat) (h0 : Nat) (sz : Nat) : Met l yX1_init (Cond.code yX1_init cX1_init 1 none :: tw) ({ frames := 1, cells := 2, slots := 14, locals := 12 }) (va_Pc [.ref h0] (pre tE adK adV (dC, dI) [(h0, .inr (1, [.null, .null]))] [] sz)) (va_Qv (fun (_ : Unit) => True) (fun (_ : Unit) (_ : State) => True) (va_A [(h0, .inr (1, [.null, .null]))] sz)) 2 14 (va_A [(h0, .inr (1, [.null, .null]))] sz) := by
  refine Met.ofW (cc := cX1_init) (maxL := 1) (ret := none) (by decide) rfl ?_
  intro p e s m args below meth c s₁ B hml hv
  obtain ⟨rfl, hsz, hP, hK, hD0, ham⟩ := hv
  have hx := B.exec
  have hb := B.bytes
  have hr := B.returns
  have hts := atoms_spec B.pre
  have hq : ∀ w ∈ tw, w.before _ s = true := fun w h => hts w (List.mem_cons_of_mem _ h)
  have hown : s.vm.findClass RX1 = some m.cls := findClass_of_methodNamed B.named
  have hlocks := B.notSynchronized
  have hin : meth.name = "<init>" := (name_of_methodNamed B.named B.method).1
  subst hsz
  have hD := hD0.self (sz := s.heap.size)
  generalize hAe : va_A [(h0, .inr (1, [.null, .null]))] s.heap.size = A at hD ham ⊢
  have hA : ∀ q : Nat, s.heap.size ≤ q → A q := fun q h => by rw [← hAe]; exact Or.inr h
  have hS : va_S A s.heap s.heap [] := va_S.rf
  have hP : va_P (dC, dI) cls [(h0, .inr (1, [.null, .null]))] s.heap := hP
  have hl := lv_entry ([.ref h0]) (n := 1) (Nat.le_of_ble_eq_true rfl)
  rw [lg_entry_eq]
  generalize (lg_sl ([.ref h0]) ++ List.replicate (1 - (lg_sl ([.ref h0])).length) Slot.unset).toArray = ls at hl ⊢
  have hl : lv_has ls 1 [(0, .ref h0)] := hl
  refine lv_aload_n hx hb dX1_init_0 rfl (lv_at hl 0 rfl) ?_
  refine W.objInit hx hb hown (hq _ q_200) (hq _ q_45) (hq _ q_46) rfl (by rw [hml]; exact hl.1) rfl dX1_init_1 (Nat.le_of_ble_eq_true rfl) (Nat.le_of_ble_eq_true rfl) ?_
  refine W.eq (g2 := F0 m 4 ls []) rfl ?_
  refine lv_aload_n hx hb dX1_init_4 rfl (lv_at hl 0 rfl) ?_
  refine lv_bipush (v := 7) hx hb dX1_init_5 (by decide) ?_
  refine va_newa (atype := .int) (a0 := (7, .inl (fun _ => 0))) hx hb (hq _ q_81) rfl hK hP hD hS hA (fun _ => rfl) (by decide) (by decide) (Nat.le_of_ble_eq_true rfl) (Nat.le_of_ble_eq_true rfl) (Nat.le_of_ble_eq_true rfl) dX1_init_7 (fun a_1 cA_2 H hK hP hD hS => ?_)
  have hP : va_P (dC, dI) cls [(h0, .inr (1, [.null, .null])), (a_1, .inl (cA_2, 7, .inl (fun _ => 0)))] H := hP
  have hD : va_D A [(h0, .inr (1, [.null, .null])), (a_1, .inl (cA_2, 7, .inl (fun _ => 0)))] := hD
  have hK : va_K (dC, dI) cls [(cA_2, .int)] s := hK
  refine W.widen (k := 1) (n := 7) (Nat.le_of_ble_eq_true rfl) (Nat.le_of_ble_eq_true rfl) ?_
  refine va_putF (D := (dC, dI)) (ci := 1) (v := .ref a_1) (ty := (.array .int)) (C := RX1) (T := TX1) (N := 2) hx hb hq i_X1 tyX1 tyX1_ok nmX1 hown hK hP hD hS 0 rfl rfl 0 (by decide) (hq _ q_201) (fun _ h9 => h9) rfl hin rfl (by decide +kernel) rfl rfl (Nat.le_of_ble_eq_true rfl) dX1_init_9 (fun H locs hP hD hS => ?_)
  have hP : va_P (dC, dI) cls [(h0, .inr (1, [.ref a_1, .null])), (a_1, .inl (cA_2, 7, .inl (fun _ => 0)))] H := hP
  have hD : va_D A [(h0, .inr (1, [.ref a_1, .null])), (a_1, .inl (cA_2, 7, .inl (fun _ => 0)))] := hD
  refine lv_aload_n hx hb dX1_init_12 rfl (lv_at hl 0 rfl) ?_
  refine lv_bipush (v := 7) hx hb dX1_init_13 (by decide) ?_
  refine va_newa (atype := .int) (a0 := (7, .inl (fun _ => 0))) hx hb (hq _ q_81) rfl hK hP hD hS hA (fun _ => rfl) (by decide) (by decide) (Nat.le_of_ble_eq_true rfl) (Nat.le_of_ble_eq_true rfl) (Nat.le_of_ble_eq_true rfl) dX1_init_15 (fun a_3 cA_4 H hK hP hD hS => ?_)
  have hP : va_P (dC, dI) cls [(h0, .inr (1, [.ref a_1, .null])), (a_1, .inl (cA_2, 7, .inl (fun _ => 0))), (a_3, .inl (cA_4, 7, .inl (fun _ => 0)))] H := hP
  have hD : va_D A [(h0, .inr (1, [.ref a_1, .null])), (a_1, .inl (cA_2, 7, .inl (fun _ => 0))), (a_3, .inl (cA_4, 7, .inl (fun _ => 0)))] := hD
  have hK : va_K (dC, dI) cls [(cA_2, .int), (cA_4, .int)] s := hK
  refine W.widen (k := 2) (n := 14) (Nat.le_of_ble_eq_true rfl) (Nat.le_of_ble_eq_true rfl) ?_
  refine va_putF (D := (dC, dI)) (ci := 1) (v := .ref a_3) (ty := (.array .int)) (C := RX1) (T := TX1) (N := 2) hx hb hq i_X1 tyX1 tyX1_ok nmX1 hown hK hP hD hS 0 rfl rfl 1 (by decide) (hq _ q_202) (fun _ h9 => h9) rfl hin rfl (by decide +kernel) rfl rfl (Nat.le_of_ble_eq_true rfl) dX1_init_17 (fun H locs hP hD hS => ?_)
  have hP : va_P (dC, dI) cls [(h0, .inr (1, [.ref a_1, .ref a_3])), (a_1, .inl (cA_2, 7, .inl (fun _ => 0))), (a_3, .inl (cA_4, 7, .inl (fun _ => 0)))] H := hP
  have hD : va_D A [(h0, .inr (1, [.ref a_1, .ref a_3])), (a_1, .inl (cA_2, 7, .inl (fun _ => 0))), (a_3, .inl (cA_4, 7, .inl (fun _ => 0)))] := hD
  refine W.widen (k := 2) (n := 14) (Nat.le_of_ble_eq_true rfl) (Nat.le_of_ble_eq_true rfl) ?_
  exact W.vret hx hb hr (fun t ht hW => ⟨⟨(), rfl, trivial, trivial⟩, hS.F ht⟩) hS.2.2 dX1_init_20
abbrev cX6_init : ByteArray := prog_8_method_1_code
def yX6_init : MethodName := ⟨RX6, "<init>", "()V"⟩
theorem dX6_init_0 : decode cX6_init 0 = .ok (.aload_n 0, 1) := by decide +kernel
theorem dX6_init_1 : decode cX6_init 1 = .ok (.invokespecial 3, 3) := by decide +kernel
theorem q_158 : (Cond.methodLink "NightfallVillage$Night" 3 objectInit) ∈ tw := tw_in (i := 158) (by decide +kernel) (by decide +kernel)
theorem dX6_init_4 : decode cX6_init 4 = .ok (.aload_n 0, 1) := by decide +kernel
theorem dX6_init_5 : decode cX6_init 5 = .ok (.bipush 7, 2) := by decide +kernel
theorem dX6_init_7 : decode cX6_init 7 = .ok (.newarray .int, 2) := by decide +kernel
theorem dX6_init_9 : decode cX6_init 9 = .ok (.putfield 9, 3) := by decide +kernel
theorem q_159 : (Cond.fieldLink "NightfallVillage$Night" 9 "NightfallVillage$Night" "targets" "[I") ∈ tw := tw_in (i := 159) (by decide +kernel) (by decide +kernel)
theorem dX6_init_12 : decode cX6_init 12 = .ok (.aload_n 0, 1) := by decide +kernel
theorem dX6_init_13 : decode cX6_init 13 = .ok (.bipush 7, 2) := by decide +kernel
theorem dX6_init_15 : decode cX6_init 15 = .ok (.newarray .int, 2) := by decide +kernel
theorem dX6_init_17 : decode cX6_init 17 = .ok (.putfield 15, 3) := by decide +kernel
theorem q_160 : (Cond.fieldLink "NightfallVillage$Night" 15 "NightfallVillage$Night" "aims" "[I") ∈ tw := tw_in (i := 160) (by decide +kernel) (by decide +kernel)
theorem dX6_init_20 : decode cX6_init 20 = .ok (.aload_n 0, 1) := by decide +kernel
theorem dX6_init_21 : decode cX6_init 21 = .ok (.bipush 7, 2) := by decide +kernel
theorem dX6_init_23 : decode cX6_init 23 = .ok (.newarray .char, 2) := by decide +kernel
theorem dX6_init_25 : decode cX6_init 25 = .ok (.putfield 18, 3) := by decide +kernel
theorem q_162 : (Cond.fieldLink "NightfallVillage$Night" 18 "NightfallVillage$Night" "acts" "[C") ∈ tw := tw_in (i := 162) (by decide +kernel) (by decide +kernel)
theorem dX6_init_28 : decode cX6_init 28 = .ok (.aload_n 0, 1) := by decide +kernel
theorem dX6_init_29 : decode cX6_init 29 = .ok (.bipush 7, 2) := by decide +kernel
theorem dX6_init_31 : decode cX6_init 31 = .ok (.newarray .int, 2) := by decide +kernel
theorem dX6_init_33 : decode cX6_init 33 = .ok (.putfield 22, 3) := by decide +kernel
theorem q_163 : (Cond.fieldLink "NightfallVillage$Night" 22 "NightfallVillage$Night" "blocks" "[I") ∈ tw := tw_in (i := 163) (by decide +kernel) (by decide +kernel)
theorem dX6_init_36 : decode cX6_init 36 = .ok (.aload_n 0, 1) := by decide +kernel
theorem dX6_init_37 : decode cX6_init 37 = .ok (.bipush 7, 2) := by decide +kernel
theorem dX6_init_39 : decode cX6_init 39 = .ok (.newarray .boolean, 2) := by decide +kernel
theorem q_82 : (Cond.arrayClass Jvm.ClassFile.FieldType.boolean) ∈ tw := tw_in (i := 82) (by decide +kernel) (by decide +kernel)
theorem dX6_init_41 : decode cX6_init 41 = .ok (.putfield 25, 3) := by decide +kernel
theorem q_164 : (Cond.fieldLink "NightfallVillage$Night" 25 "NightfallVillage$Night" "blocked" "[Z") ∈ tw := tw_in (i := 164) (by decide +kernel) (by decide +kernel)
theorem dX6_init_44 : decode cX6_init 44 = .ok (.aload_n 0, 1) := by decide +kernel
theorem dX6_init_45 : decode cX6_init 45 = .ok (.bipush 7, 2) := by decide +kernel
theorem dX6_init_47 : decode cX6_init 47 = .ok (.newarray .boolean, 2) := by decide +kernel
theorem dX6_init_49 : decode cX6_init 49 = .ok (.putfield 29, 3) := by decide +kernel
theorem q_165 : (Cond.fieldLink "NightfallVillage$Night" 29 "NightfallVillage$Night" "drunk" "[Z") ∈ tw := tw_in (i := 165) (by decide +kernel) (by decide +kernel)
theorem dX6_init_52 : decode cX6_init 52 = .ok (.aload_n 0, 1) := by decide +kernel
theorem dX6_init_53 : decode cX6_init 53 = .ok (.bipush 7, 2) := by decide +kernel
theorem dX6_init_55 : decode cX6_init 55 = .ok (.newarray .boolean, 2) := by decide +kernel
theorem dX6_init_57 : decode cX6_init 57 = .ok (.putfield 32, 3) := by decide +kernel
theorem q_166 : (Cond.fieldLink "NightfallVillage$Night" 32 "NightfallVillage$Night" "guarded" "[Z") ∈ tw := tw_in (i := 166) (by decide +kernel) (by decide +kernel)
theorem dX6_init_60 : decode cX6_init 60 = .ok (.aload_n 0, 1) := by decide +kernel
theorem dX6_init_61 : decode cX6_init 61 = .ok (.bipush 7, 2) := by decide +kernel
theorem dX6_init_63 : decode cX6_init 63 = .ok (.newarray .boolean, 2) := by decide +kernel
theorem dX6_init_65 : decode cX6_init 65 = .ok (.putfield 35, 3) := by decide +kernel
theorem q_167 : (Cond.fieldLink "NightfallVillage$Night" 35 "NightfallVillage$Night" "attacked" "[Z") ∈ tw := tw_in (i := 167) (by decide +kernel) (by decide +kernel)
theorem dX6_init_68 : decode cX6_init 68 = .ok (.aload_n 0, 1) := by decide +kernel
theorem dX6_init_69 : decode cX6_init 69 = .ok (.bipush 7, 2) := by decide +kernel
theorem dX6_init_71 : decode cX6_init 71 = .ok (.newarray .boolean, 2) := by decide +kernel
theorem dX6_init_73 : decode cX6_init 73 = .ok (.putfield 38, 3) := by decide +kernel
theorem q_168 : (Cond.fieldLink "NightfallVillage$Night" 38 "NightfallVillage$Night" "silenced" "[Z") ∈ tw := tw_in (i := 168) (by decide +kernel) (by decide +kernel)
theorem dX6_init_76 : decode cX6_init 76 = .ok (.aload_n 0, 1) := by decide +kernel
theorem dX6_init_77 : decode cX6_init 77 = .ok (.bipush 7, 2) := by decide +kernel
theorem dX6_init_79 : decode cX6_init 79 = .ok (.newarray .boolean, 2) := by decide +kernel
theorem dX6_init_81 : decode cX6_init 81 = .ok (.putfield 41, 3) := by decide +kernel
theorem q_169 : (Cond.fieldLink "NightfallVillage$Night" 41 "NightfallVillage$Night" "done" "[Z") ∈ tw := tw_in (i := 169) (by decide +kernel) (by decide +kernel)
theorem dX6_init_84 : decode cX6_init 84 = .ok (.aload_n 0, 1) := by decide +kernel
theorem dX6_init_85 : decode cX6_init 85 = .ok (.bipush 7, 2) := by decide +kernel
theorem dX6_init_87 : decode cX6_init 87 = .ok (.newarray .char, 2) := by decide +kernel
theorem dX6_init_89 : decode cX6_init 89 = .ok (.putfield 44, 3) := by decide +kernel
theorem q_170 : (Cond.fieldLink "NightfallVillage$Night" 44 "NightfallVillage$Night" "tellings" "[C") ∈ tw := tw_in (i := 170) (by decide +kernel) (by decide +kernel)
theorem dX6_init_92 : decode cX6_init 92 = .ok (.return_, 1) := by decide +kernel
set_option maxHeartbeats 4000000 in
set_option maxRecDepth 100000 in
/-- Night(): ends -/
theorem c_Night_init (l : Launch) (hst : l.stackTraces = false) (tE : Nat) (adK adV : Nat → Nat) (dC : Nat → ClassId) (dI : Nat → Nat → Nat) (h0 : Nat) (sz : Nat) : Met l yX6_init (Cond.code yX6_init cX6_init 1 none :: tw) ({ frames := 1, cells := 11, slots := 77, locals := 12 }) (va_Pc [.ref h0] (pre tE adK adV (dC, dI) [(h0, .inr (6, [.null, .null, .null, .null, .null, .null, .null, .null, .null, .null, .null]))] [] sz)) (va_Qv (fun (_ : Unit) => True) (fun (_ : Unit) (_ : State) => True) (va_A [(h0, .inr (6, [.null, .null, .null, .null, .null, .null, .null, .null, .null, .null, .null]))] sz)) 11 77 (va_A [(h0, .inr (6, [.null, .null, .null, .null, .null, .null, .null, .null, .null, .null, .null]))] sz) := by
  refine Met.ofW (cc := cX6_init) (maxL := 1) (ret := none) (by decide) rfl ?_
  intro p e s m args below meth c s₁ B hml hv
  obtain ⟨rfl, hsz, hP, hK, hD0, ham⟩ := hv
  have hx := B.exec
  have hb := B.bytes
  have hr := B.returns
  have hts := atoms_spec B.pre
  have hq : ∀ w ∈ tw, w.before _ s = true := fun w h => hts w (List.mem_cons_of_mem _ h)
  have hown : s.vm.findClass RX6 = some m.cls := findClass_of_methodNamed B.named
  have hlocks := B.notSynchronized
  have hin : meth.name = "<init>" := (name_of_methodNamed B.named B.method).1
  subst hsz
  have hD := hD0.self (sz := s.heap.size)
  generalize hAe : va_A [(h0, .inr (6, [.null, .null, .null, .null, .null, .null, .null, .null, .null, .null, .null]))] s.heap.size = A at hD ham ⊢
  have hA : ∀ q : Nat, s.heap.size ≤ q → A q := fun q h => by rw [← hAe]; exact Or.inr h
  have hS : va_S A s.heap s.heap [] := va_S.rf
  have hP : va_P (dC, dI) cls [(h0, .inr (6, [.null, .null, .null, .null, .null, .null, .null, .null, .null, .null, .null]))] s.heap := hP
  have hl := lv_entry ([.ref h0]) (n := 1) (Nat.le_of_ble_eq_true rfl)
  rw [lg_entry_eq]
  generalize (lg_sl ([.ref h0]) ++ List.replicate (1 - (lg_sl ([.ref h0])).length) Slot.unset).toArray = ls at hl ⊢
  have hl : lv_has ls 1 [(0, .ref h0)] := hl
  refine lv_aload_n hx hb dX6_init_0 rfl (lv_at hl 0 rfl) ?_
  refine W.objInit hx hb hown (hq _ q_158) (hq _ q_45) (hq _ q_46) rfl (by rw [hml]; exact hl.1) rfl dX6_init_1 (Nat.le_of_ble_eq_true rfl) (Nat.le_of_ble_eq_true rfl) ?_
  refine W.eq (g2 := F0 m 4 ls []) rfl ?_
  refine lv_aload_n hx hb dX6_init_4 rfl (lv_at hl 0 rfl) ?_
  refine lv_bipush (v := 7) hx hb dX6_init_5 (by decide) ?_
  refine va_newa (atype := .int) (a0 := (7, .inl (fun _ => 0))) hx hb (hq _ q_81) rfl hK hP hD hS hA (fun _ => rfl) (by decide) (by decide) (Nat.le_of_ble_eq_true rfl) (Nat.le_of_ble_eq_true rfl) (Nat.le_of_ble_eq_true rfl) dX6_init_7 (fun a_1 cA_2 H hK hP hD hS => ?_)
  have hP : va_P (dC, dI) cls [(h0, .inr (6, [.null, .null, .null, .null, .null, .null, .null, .null, .null, .null, .null])), (a_1, .inl (cA_2, 7, .inl (fun _ => 0)))] H := hP
  have hD : va_D A [(h0, .inr (6, [.null, .null, .null, .null, .null, .null, .null, .null, .null, .null, .null])), (a_1, .inl (cA_2, 7, .inl (fun _ => 0)))] := hD
  have hK : va_K (dC, dI) cls [(cA_2, .int)] s := hK
  refine W.widen (k := 1) (n := 7) (Nat.le_of_ble_eq_true rfl) (Nat.le_of_ble_eq_true rfl) ?_
  refine va_putF (D := (dC, dI)) (ci := 6) (v := .ref a_1) (ty := (.array .int)) (C := RX6) (T := TX6) (N := 11) hx hb hq i_X6 tyX6 tyX6_ok nmX6 hown hK hP hD hS 0 rfl rfl 0 (by decide) (hq _ q_159) (fun _ h9 => h9) rfl hin rfl (by decide +kernel) rfl rfl (Nat.le_of_ble_eq_true rfl) dX6_init_9 (fun H locs hP hD hS => ?_)
  have hP : va_P (dC, dI) cls [(h0, .inr (6, [.ref a_1, .null, .null, .null, .null, .null, .null, .null, .null, .null, .null])), (a_1, .inl (cA_2, 7, .inl (fun _ => 0)))] H := hP
  have hD : va_D A [(h0, .inr (6, [.ref a_1, .null, .null, .null, .null, .null, .null, .null, .null, .null, .null])), (a_1, .inl (cA_2, 7, .inl (fun _ => 0)))] := hD
  refine lv_aload_n hx hb dX6_init_12 rfl (lv_at hl 0 rfl) ?_
  refine lv_bipush (v := 7) hx hb dX6_init_13 (by decide) ?_
  refine va_newa (atype := .int) (a0 := (7, .inl (fun _ => 0))) hx hb (hq _ q_81) rfl hK hP hD hS hA (fun _ => rfl) (by decide) (by decide) (Nat.le_of_ble_eq_true rfl) (Nat.le_of_ble_eq_true rfl) (Nat.le_of_ble_eq_true rfl) dX6_init_15 (fun a_3 cA_4 H hK hP hD hS => ?_)
  have hP : va_P (dC, dI) cls [(h0, .inr (6, [.ref a_1, .null, .null, .null, .null, .null, .null, .null, .null, .null, .null])), (a_1, .inl (cA_2, 7, .inl (fun _ => 0))), (a_3, .inl (cA_4, 7, .inl (fun _ => 0)))] H := hP
  have hD : va_D A [(h0, .inr (6, [.ref a_1, .null, .null, .null, .null, .null, .null, .null, .null, .null, .null])), (a_1, .inl (cA_2, 7, .inl (fun _ => 0))), (a_3, .inl (cA_4, 7, .inl (fun _ => 0)))] := hD
  have hK : va_K (dC, dI) cls [(cA_2, .int), (cA_4, .int)] s := hK
  refine W.widen (k := 2) (n := 14) (Nat.le_of_ble_eq_true rfl) (Nat.le_of_ble_eq_true rfl) ?_
  refine va_putF (D := (dC, dI)) (ci := 6) (v := .ref a_3) (ty := (.array .int)) (C := RX6) (T := TX6) (N := 11) hx hb hq i_X6 tyX6 tyX6_ok nmX6 hown hK hP hD hS 0 rfl rfl 1 (by decide) (hq _ q_160) (fun _ h9 => h9) rfl hin rfl (by decide +kernel) rfl rfl (Nat.le_of_ble_eq_true rfl) dX6_init_17 (fun H locs hP hD hS => ?_)
  have hP : va_P (dC, dI) cls [(h0, .inr (6, [.ref a_1, .ref a_3, .null, .null, .null, .null, .null, .null, .null, .null, .null])), (a_1, .inl (cA_2, 7, .inl (fun _ => 0))), (a_3, .inl (cA_4, 7, .inl (fun _ => 0)))] H := hP
  have hD : va_D A [(h0, .inr (6, [.ref a_1, .ref a_3, .null, .null, .null, .null, .null, .null, .null, .null, .null])), (a_1, .inl (cA_2, 7, .inl (fun _ => 0))), (a_3, .inl (cA_4, 7, .inl (fun _ => 0)))] := hD
  refine lv_aload_n hx hb dX6_init_20 rfl (lv_at hl 0 rfl) ?_
  refine lv_bipush (v := 7) hx hb dX6_init_21 (by decide) ?_
  refine va_newa (atype := .char) (a0 := (7, .inl (fun _ => 0))) hx hb (hq _ q_80) rfl hK hP hD hS hA (fun _ => rfl) (by decide) (by decide) (Nat.le_of_ble_eq_true rfl) (Nat.le_of_ble_eq_true rfl) (Nat.le_of_ble_eq_true rfl) dX6_init_23 (fun a_5 cA_6 H hK hP hD hS => ?_)
  have hP : va_P (dC, dI) cls [(h0, .inr (6, [.ref a_1, .ref a_3, .null, .null, .null, .null, .null, .null, .null, .null, .null])), (a_1, .inl (cA_2, 7, .inl (fun _ => 0))), (a_3, .inl (cA_4, 7, .inl (fun _ => 0))), (a_5, .inl (cA_6, 7, .inl (fun _ => 0)))] H := hP
  have hD : va_D A [(h0, .inr (6, [.ref a_1, .ref a_3, .null, .null, .null, .null, .null, .null, .null, .null, .null])), (a_1, .inl (cA_2, 7, .inl (fun _ => 0))), (a_3, .inl (cA_4, 7, .inl (fun _ => 0))), (a_5, .inl (cA_6, 7, .inl (fun _ => 0)))] := hD
  have hK : va_K (dC, dI) cls [(cA_2, .int), (cA_4, .int), (cA_6, .char)] s := hK
  refine W.widen (k := 3) (n := 21) (Nat.le_of_ble_eq_true rfl) (Nat.le_of_ble_eq_true rfl) ?_
  refine va_putF (D := (dC, dI)) (ci := 6) (v := .ref a_5) (ty := (.array .char)) (C := RX6) (T := TX6) (N := 11) hx hb hq i_X6 tyX6 tyX6_ok nmX6 hown hK hP hD hS 0 rfl rfl 2 (by decide) (hq _ q_162) (fun _ h9 => h9) rfl hin rfl (by decide +kernel) rfl rfl (Nat.le_of_ble_eq_true rfl) dX6_init_25 (fun H locs hP hD hS => ?_)
  have hP : va_P (dC, dI) cls [(h0, .inr (6, [.ref a_1, .ref a_3, .ref a_5, .null, .null, .null, .null, .null, .null, .null, .null])), (a_1, .inl (cA_2, 7, .inl (fun _ => 0))), (a_3, .inl (cA_4, 7, .inl (fun _ => 0))), (a_5, .inl (cA_6, 7, .inl (fun _ => 0)))] H := hP
  have hD : va_D A [(h0, .inr (6, [.ref a_1, .ref a_3, .ref a_5, .null, .null, .null, .null, .null, .null, .null, .null])), (a_1, .inl (cA_2, 7, .inl (fun _ => 0))), (a_3, .inl (cA_4, 7, .inl (fun _ => 0))), (a_5, .inl (cA_6, 7, .inl (fun _ => 0)))] := hD
  refine lv_aload_n hx hb dX6_init_28 rfl (lv_at hl 0 rfl) ?_
  refine lv_bipush (v := 7) hx hb dX6_init_29 (by decide) ?_
  refine va_newa (atype := .int) (a0 := (7, .inl (fun _ => 0))) hx hb (hq _ q_81) rfl hK hP hD hS hA (fun _ => rfl) (by decide) (by decide) (Nat.le_of_ble_eq_true rfl) (Nat.le_of_ble_eq_true rfl) (Nat.le_of_ble_eq_true rfl) dX6_init_31 (fun a_7 cA_8 H hK hP hD hS => ?_)
  have hP : va_P (dC, dI) cls [(h0, .inr (6, [.ref a_1, .ref a_3, .ref a_5, .null, .null, .null, .null, .null, .null, .null, .null])), (a_1, .inl (cA_2, 7, .inl (fun _ => 0))), (a_3, .inl (cA_4, 7, .inl (fun _ => 0))), (a_5, .inl (cA_6, 7, .inl (fun _ => 0))), (a_7, .inl (cA_8, 7, .inl (fun _ => 0)))] H := hP
  have hD : va_D A [(h0, .inr (6, [.ref a_1, .ref a_3, .ref a_5, .null, .null, .null, .null, .null, .null, .null, .null])), (a_1, .inl (cA_2, 7, .inl (fun _ => 0))), (a_3, .inl (cA_4, 7, .inl (fun _ => 0))), (a_5, .inl (cA_6, 7, .inl (fun _ => 0))), (a_7, .inl (cA_8, 7, .inl (fun _ => 0)))] := hD
  have hK : va_K (dC, dI) cls [(cA_2, .int), (cA_4, .int), (cA_6, .char), (cA_8, .int)] s := hK
  refine W.widen (k := 4) (n := 28) (Nat.le_of_ble_eq_true rfl) (Nat.le_of_ble_eq_true rfl) ?_
  refine va_putF (D := (dC, dI)) (ci := 6) (v := .ref a_7) (ty := (.array .int)) (C := RX6) (T := TX6) (N := 11) hx hb hq i_X6 tyX6 tyX6_ok nmX6 hown hK hP hD hS 0 rfl rfl 3 (by decide) (hq _ q_163) (fun _ h9 => h9) rfl hin rfl (by decide +kernel) rfl rfl (Nat.le_of_ble_eq_true rfl) dX6_init_33 (fun H locs hP hD hS => ?_)
  have hP : va_P (dC, dI) cls [(h0, .inr (6, [.ref a_1, .ref a_3, .ref a_5, .ref a_7, .null, .null, .null, .null, .null, .null, .null])), (a_1, .inl (cA_2, 7, .inl (fun _ => 0))), (a_3, .inl (cA_4, 7, .inl (fun _ => 0))), (a_5, .inl (cA_6, 7, .inl (fun _ => 0))), (a_7, .inl (cA_8, 7, .inl (fun _ => 0)))] H := hP
  have hD : va_D A [(h0, .inr (6, [.ref a_1, .ref a_3, .ref a_5, .ref a_7, .null, .null, .null, .null, .null, .null, .null])), (a_1, .inl (cA_2, 7, .inl (fun _ => 0))), (a_3, .inl (cA_4, 7, .inl (fun _ => 0))), (a_5, .inl (cA_6, 7, .inl (fun _ => 0))), (a_7, .inl (cA_8, 7, .inl (fun _ => 0)))] := hD
  refine lv_aload_n hx hb dX6_init_36 rfl (lv_at hl 0 rfl) ?_
  refine lv_bipush (v := 7) hx hb dX6_init_37 (by decide) ?_
  refine va_newa (atype := .boolean) (a0 := (7, .inl (fun _ => 0))) hx hb (hq _ q_82) rfl hK hP hD hS hA (fun _ => rfl) (by decide) (by decide) (Nat.le_of_ble_eq_true rfl) (Nat.le_of_ble_eq_true rfl) (Nat.le_of_ble_eq_true rfl) dX6_init_39 (fun a_9 cA_10 H hK hP hD hS => ?_)
  have hP : va_P (dC, dI) cls [(h0, .inr (6, [.ref a_1, .ref a_3, .ref a_5, .ref a_7, .null, .null, .null, .null, .null, .null, .null])), (a_1, .inl (cA_2, 7, .inl (fun _ => 0))), (a_3, .inl (cA_4, 7, .inl (fun _ => 0))), (a_5, .inl (cA_6, 7, .inl (fun _ => 0))), (a_7, .inl (cA_8, 7, .inl (fun _ => 0))), (a_9, .inl (cA_10, 7, .inl (fun _ => 0)))] H := hP
  have hD : va_D A [(h0, .inr (6, [.ref a_1, .ref a_3, .ref a_5, .ref a_7, .null, .null, .null, .null, .null, .null, .null])), (a_1, .inl (cA_2, 7, .inl (fun _ => 0))), (a_3, .inl (cA_4, 7, .inl (fun _ => 0))), (a_5, .inl (cA_6, 7, .inl (fun _ => 0))), (a_7, .inl (cA_8, 7, .inl (fun _ => 0))), (a_9, .inl (cA_10, 7, .inl (fun _ => 0)))] := hD
  have hK : va_K (dC, dI) cls [(cA_2, .int), (cA_4, .int), (cA_6, .char), (cA_8, .int), (cA_10, .boolean)] s := hK
  refine W.widen (k := 5) (n := 35) (Nat.le_of_ble_eq_true rfl) (Nat.le_of_ble_eq_true rfl) ?_
  refine va_putF (D := (dC, dI)) (ci := 6) (v := .ref a_9) (ty := (.array .boolean)) (C := RX6) (T := TX6) (N := 11) hx hb hq i_X6 tyX6 tyX6_ok nmX6 hown hK hP hD hS 0 rfl rfl 4 (by decide) (hq _ q_164) (fun _ h9 => h9) rfl hin rfl (by decide +kernel) rfl rfl (Nat.le_of_ble_eq_true rfl) dX6_init_41 (fun H locs hP hD hS => ?_)
  have hP : va_P (dC, dI) cls [(h0, .inr (6, [.ref a_1, .ref a_3, .ref a_5, .ref a_7, .ref a_9, .null, .null, .null, .null, .null, .null])), (a_1, .inl (cA_2, 7, .inl (fun _ => 0))), (a_3, .inl (cA_4, 7, .inl (fun _ => 0))), (a_5, .inl (cA_6, 7, .inl (fun _ => 0))), (a_7, .inl (cA_8, 7, .inl (fun _ => 0))), (a_9, .inl (cA_10, 7, .inl (fun _ => 0)))] H := hP
  have hD : va_D A [(h0, .inr (6, [.ref a_1, .ref a_3, .ref a_5, .ref a_7, .ref a_9, .null, .null, .null, .null, .null, .null])), (a_1, .inl (cA_2, 7, .inl (fun _ => 0))), (a_3, .inl (cA_4, 7, .inl (fun _ => 0))), (a_5, .inl (cA_6, 7, .inl (fun _ => 0))), (a_7, .inl (cA_8, 7, .inl (fun _ => 0))), (a_9, .inl (cA_10, 7, .inl (fun _ => 0)))] := hD
  refine lv_aload_n hx hb dX6_init_44 rfl (lv_at hl 0 rfl) ?_
  refine lv_bipush (v := 7) hx hb dX6_init_45 (by decide) ?_
  refine va_newa (atype := .boolean) (a0 := (7, .inl (fun _ => 0))) hx hb (hq _ q_82) rfl hK hP hD hS hA (fun _ => rfl) (by decide) (by decide) (Nat.le_of_ble_eq_true rfl) (Nat.le_of_ble_eq_true rfl) (Nat.le_of_ble_eq_true rfl) dX6_init_47 (fun a_11 cA_12 H hK hP hD hS => ?_)
  have hP : va_P (dC, dI) cls [(h0, .inr (6, [.ref a_1, .ref a_3, .ref a_5, .ref a_7, .ref a_9, .null, .null, .null, .null, .null, .null])), (a_1, .inl (cA_2, 7, .inl (fun _ => 0))), (a_3, .inl (cA_4, 7, .inl (fun _ => 0))), (a_5, .inl (cA_6, 7, .inl (fun _ => 0))), (a_7, .inl (cA_8, 7, .inl (fun _ => 0))), (a_9, .inl (cA_10, 7, .inl (fun _ => 0))), (a_11, .inl (cA_12, 7, .inl (fun _ => 0)))] H := hP
  have hD : va_D A [(h0, .inr (6, [.ref a_1, .ref a_3, .ref a_5, .ref a_7, .ref a_9, .null, .null, .null, .null, .null, .null])), (a_1, .inl (cA_2, 7, .inl (fun _ => 0))), (a_3, .inl (cA_4, 7, .inl (fun _ => 0))), (a_5, .inl (cA_6, 7, .inl (fun _ => 0))), (a_7, .inl (cA_8, 7, .inl (fun _ => 0))), (a_9, .inl (cA_10, 7, .inl (fun _ => 0))), (a_11, .inl (cA_12, 7, .inl (fun _ => 0)))] := hD
  have hK : va_K (dC, dI) cls [(cA_2, .int), (cA_4, .int), (cA_6, .char), (cA_8, .int), (cA_10, .boolean), (cA_12, .boolean)] s := hK
  refine W.widen (k := 6) (n := 42) (Nat.le_of_ble_eq_true rfl) (Nat.le_of_ble_eq_true rfl) ?_
  refine va_putF (D := (dC, dI)) (ci := 6) (v := .ref a_11) (ty := (.array .boolean)) (C := RX6) (T := TX6) (N := 11) hx hb hq i_X6 tyX6 tyX6_ok nmX6 hown hK hP hD hS 0 rfl rfl 5 (by decide) (hq _ q_165) (fun _ h9 => h9) rfl hin rfl (by decide +kernel) rfl rfl (Nat.le_of_ble_eq_true rfl) dX6_init_49 (fun H locs hP hD hS => ?_)
  have hP : va_P (dC, dI) cls [(h0, .inr (6, [.ref a_1, .ref a_3, .ref a_5, .ref a_7, .ref a_9, .ref a_11, .null, .null, .null, .null, .null])), (a_1, .inl (cA_2, 7, .inl (fun _ => 0))), (a_3, .inl (cA_4, 7, .inl (fun _ => 0))), (a_5, .inl (cA_6, 7, .inl (fun _ => 0))), (a_7, .inl (cA_8, 7, .inl (fun _ => 0))), (a_9, .inl (cA_10, 7, .inl (fun _ => 0))), (a_11, .inl (cA_12, 7, .inl (fun _ => 0)))] H := hP
  have hD : va_D A [(h0, .inr (6, [.ref a_1, .ref a_3, .ref a_5, .ref a_7, .ref a_9, .ref a_11, .null, .null, .null, .null, .null])), (a_1, .inl (cA_2, 7, .inl (fun _ => 0))), (a_3, .inl (cA_4, 7, .inl (fun _ => 0))), (a_5, .inl (cA_6, 7, .inl (fun _ => 0))), (a_7, .inl (cA_8, 7, .inl (fun _ => 0))), (a_9, .inl (cA_10, 7, .inl (fun _ => 0))), (a_11, .inl (cA_12, 7, .inl (fun _ => 0)))] := hD
  refine lv_aload_n hx hb dX6_init_52 rfl (lv_at hl 0 rfl) ?_
  refine lv_bipush (v := 7) hx hb dX6_init_53 (by decide) ?_
  refine va_newa (atype := .boolean) (a0 := (7, .inl (fun _ => 0))) hx hb (hq _ q_82) rfl hK hP hD hS hA (fun _ => rfl) (by decide) (by decide) (Nat.le_of_ble_eq_true rfl) (Nat.le_of_ble_eq_true rfl) (Nat.le_of_ble_eq_true rfl) dX6_init_55 (fun a_13 cA_14 H hK hP hD hS => ?_)
  have hP : va_P (dC, dI) cls [(h0, .inr (6, [.ref a_1, .ref a_3, .ref a_5, .ref a_7, .ref a_9, .ref a_11, .null, .null, .null, .null, .null])), (a_1, .inl (cA_2, 7, .inl (fun _ => 0))), (a_3, .inl (cA_4, 7, .inl (fun _ => 0))), (a_5, .inl (cA_6, 7, .inl (fun _ => 0))), (a_7, .inl (cA_8, 7, .inl (fun _ => 0))), (a_9, .inl (cA_10, 7, .inl (fun _ => 0))), (a_11, .inl (cA_12, 7, .inl (fun _ => 0))), (a_13, .inl (cA_14, 7, .inl (fun _ => 0)))] H := hP
  have hD : va_D A [(h0, .inr (6, [.ref a_1, .ref a_3, .ref a_5, .ref a_7, .ref a_9, .ref a_11, .null, .null, .null, .null, .null])), (a_1, .inl (cA_2, 7, .inl (fun _ => 0))), (a_3, .inl (cA_4, 7, .inl (fun _ => 0))), (a_5, .inl (cA_6, 7, .inl (fun _ => 0))), (a_7, .inl (cA_8, 7, .inl (fun _ => 0))), (a_9, .inl (cA_10, 7, .inl (fun _ => 0))), (a_11, .inl (cA_12, 7, .inl (fun _ => 0))), (a_13, .inl (cA_14, 7, .inl (fun _ => 0)))] := hD
  have hK : va_K (dC, dI) cls [(cA_2, .int), (cA_4, .int), (cA_6, .char), (cA_8, .int), (cA_10, .boolean), (cA_12, .boolean), (cA_14, .boolean)] s := hK
  refine W.widen (k := 7) (n := 49) (Nat.le_of_ble_eq_true rfl) (Nat.le_of_ble_eq_true rfl) ?_
  refine va_putF (D := (dC, dI)) (ci := 6) (v := .ref a_13) (ty := (.array .boolean)) (C := RX6) (T := TX6) (N := 11) hx hb hq i_X6 tyX6 tyX6_ok nmX6 hown hK hP hD hS 0 rfl rfl 6 (by decide) (hq _ q_166) (fun _ h9 => h9) rfl hin rfl (by decide +kernel) rfl rfl (Nat.le_of_ble_eq_true rfl) dX6_init_57 (fun H locs hP hD hS => ?_)
  have hP : va_P (dC, dI) cls [(h0, .inr (6, [.ref a_1, .ref a_3, .ref a_5, .ref a_7, .ref a_9, .ref a_11, .ref a_13, .null, .null, .null, .null])), (a_1, .inl (cA_2, 7, .inl (fun _ => 0))), (a_3, .inl (cA_4, 7, .inl (fun _ => 0))), (a_5, .inl (cA_6, 7, .inl (fun _ => 0))), (a_7, .inl (cA_8, 7, .inl (fun _ => 0))), (a_9, .inl (cA_10, 7, .inl (fun _ => 0))), (a_11, .inl (cA_12, 7, .inl (fun _ => 0))), (a_13, .inl (cA_14, 7, .inl (fun _ => 0)))] H := hP
  have hD : va_D A [(h0, .inr (6, [.ref a_1, .ref a_3, .ref a_5, .ref a_7, .ref a_9, .ref a_11, .ref a_13, .null, .null, .null, .null])), (a_1, .inl (cA_2, 7, .inl (fun _ => 0))), (a_3, .inl (cA_4, 7, .inl (fun _ => 0))), (a_5, .inl (cA_6, 7, .inl (fun _ => 0))), (a_7, .inl (cA_8, 7, .inl (fun _ => 0))), (a_9, .inl (cA_10, 7, .inl (fun _ => 0))), (a_11, .inl (cA_12, 7, .inl (fun _ => 0))), (a_13, .inl (cA_14, 7, .inl (fun _ => 0)))] := hD
  refine lv_aload_n hx hb dX6_init_60 rfl (lv_at hl 0 rfl) ?_
  refine lv_bipush (v := 7) hx hb dX6_init_61 (by decide) ?_
  refine va_newa (atype := .boolean) (a0 := (7, .inl (fun _ => 0))) hx hb (hq _ q_82) rfl hK hP hD hS hA (fun _ => rfl) (by decide) (by decide) (Nat.le_of_ble_eq_true rfl) (Nat.le_of_ble_eq_true rfl) (Nat.le_of_ble_eq_true rfl) dX6_init_63 (fun a_15 cA_16 H hK hP hD hS => ?_)
  have hP : va_P (dC, dI) cls [(h0, .inr (6, [.ref a_1, .ref a_3, .ref a_5, .ref a_7, .ref a_9, .ref a_11, .ref a_13, .null, .null, .null, .null])), (a_1, .inl (cA_2, 7, .inl (fun _ => 0))), (a_3, .inl (cA_4, 7, .inl (fun _ => 0))), (a_5, .inl (cA_6, 7, .inl (fun _ => 0))), (a_7, .inl (cA_8, 7, .inl (fun _ => 0))), (a_9, .inl (cA_10, 7, .inl (fun _ => 0))), (a_11, .inl (cA_12, 7, .inl (fun _ => 0))), (a_13, .inl (cA_14, 7, .inl (fun _ => 0))), (a_15, .inl (cA_16, 7, .inl (fun _ => 0)))] H := hP
  have hD : va_D A [(h0, .inr (6, [.ref a_1, .ref a_3, .ref a_5, .ref a_7, .ref a_9, .ref a_11, .ref a_13, .null, .null, .null, .null])), (a_1, .inl (cA_2, 7, .inl (fun _ => 0))), (a_3, .inl (cA_4, 7, .inl (fun _ => 0))), (a_5, .inl (cA_6, 7, .inl (fun _ => 0))), (a_7, .inl (cA_8, 7, .inl (fun _ => 0))), (a_9, .inl (cA_10, 7, .inl (fun _ => 0))), (a_11, .inl (cA_12, 7, .inl (fun _ => 0))), (a_13, .inl (cA_14, 7, .inl (fun _ => 0))), (a_15, .inl (cA_16, 7, .inl (fun _ => 0)))] := hD
  have hK : va_K (dC, dI) cls [(cA_2, .int), (cA_4, .int), (cA_6, .char), (cA_8, .int), (cA_10, .boolean), (cA_12, .boolean), (cA_14, .boolean), (cA_16, .boolean)] s := hK
  refine W.widen (k := 8) (n := 56) (Nat.le_of_ble_eq_true rfl) (Nat.le_of_ble_eq_true rfl) ?_
  refine va_putF (D := (dC, dI)) (ci := 6) (v := .ref a_15) (ty := (.array .boolean)) (C := RX6) (T := TX6) (N := 11) hx hb hq i_X6 tyX6 tyX6_ok nmX6 hown hK hP hD hS 0 rfl rfl 7 (by decide) (hq _ q_167) (fun _ h9 => h9) rfl hin rfl (by decide +kernel) rfl rfl (Nat.le_of_ble_eq_true rfl) dX6_init_65 (fun H locs hP hD hS => ?_)
  have hP : va_P (dC, dI) cls [(h0, .inr (6, [.ref a_1, .ref a_3, .ref a_5, .ref a_7, .ref a_9, .ref a_11, .ref a_13, .ref a_15, .null, .null, .null])), (a_1, .inl (cA_2, 7, .inl (fun _ => 0))), (a_3, .inl (cA_4, 7, .inl (fun _ => 0))), (a_5, .inl (cA_6, 7, .inl (fun _ => 0))), (a_7, .inl (cA_8, 7, .inl (fun _ => 0))), (a_9, .inl (cA_10, 7, .inl (fun _ => 0))), (a_11, .inl (cA_12, 7, .inl (fun _ => 0))), (a_13, .inl (cA_14, 7, .inl (fun _ => 0))), (a_15, .inl (cA_16, 7, .inl (fun _ => 0)))] H := hP
  have hD : va_D A [(h0, .inr (6, [.ref a_1, .ref a_3, .ref a_5, .ref a_7, .ref a_9, .ref a_11, .ref a_13, .ref a_15, .null, .null, .null])), (a_1, .inl (cA_2, 7, .inl (fun _ => 0))), (a_3, .inl (cA_4, 7, .inl (fun _ => 0))), (a_5, .inl (cA_6, 7, .inl (fun _ => 0))), (a_7, .inl (cA_8, 7, .inl (fun _ => 0))), (a_9, .inl (cA_10, 7, .inl (fun _ => 0))), (a_11, .inl (cA_12, 7, .inl (fun _ => 0))), (a_13, .inl (cA_14, 7, .inl (fun _ => 0))), (a_15, .inl (cA_16, 7, .inl (fun _ => 0)))] := hD
  refine lv_aload_n hx hb dX6_init_68 rfl (lv_at hl 0 rfl) ?_
  refine lv_bipush (v := 7) hx hb dX6_init_69 (by decide) ?_
  refine va_newa (atype := .boolean) (a0 := (7, .inl (fun _ => 0))) hx hb (hq _ q_82) rfl hK hP hD hS hA (fun _ => rfl) (by decide) (by decide) (Nat.le_of_ble_eq_true rfl) (Nat.le_of_ble_eq_true rfl) (Nat.le_of_ble_eq_true rfl) dX6_init_71 (fun a_17 cA_18 H hK hP hD hS => ?_)
  have hP : va_P (dC, dI) cls [(h0, .inr (6, [.ref a_1, .ref a_3, .ref a_5, .ref a_7, .ref a_9, .ref a_11, .ref a_13, .ref a_15, .null, .null, .null])), (a_1, .inl (cA_2, 7, .inl (fun _ => 0))), (a_3, .inl (cA_4, 7, .inl (fun _ => 0))), (a_5, .inl (cA_6, 7, .inl (fun _ => 0))), (a_7, .inl (cA_8, 7, .inl (fun _ => 0))), (a_9, .inl (cA_10, 7, .inl (fun _ => 0))), (a_11, .inl (cA_12, 7, .inl (fun _ => 0))), (a_13, .inl (cA_14, 7, .inl (fun _ => 0))), (a_15, .inl (cA_16, 7, .inl (fun _ => 0))), (a_17, .inl (cA_18, 7, .inl (fun _ => 0)))] H := hP
  have hD : va_D A [(h0, .inr (6, [.ref a_1, .ref a_3, .ref a_5, .ref a_7, .ref a_9, .ref a_11, .ref a_13, .ref a_15, .null, .null, .null])), (a_1, .inl (cA_2, 7, .inl (fun _ => 0))), (a_3, .inl (cA_4, 7, .inl (fun _ => 0))), (a_5, .inl (cA_6, 7, .inl (fun _ => 0))), (a_7, .inl (cA_8, 7, .inl (fun _ => 0))), (a_9, .inl (cA_10, 7, .inl (fun _ => 0))), (a_11, .inl (cA_12, 7, .inl (fun _ => 0))), (a_13, .inl (cA_14, 7, .inl (fun _ => 0))), (a_15, .inl (cA_16, 7, .inl (fun _ => 0))), (a_17, .inl (cA_18, 7, .inl (fun _ => 0)))] := hD
  have hK : va_K (dC, dI) cls [(cA_2, .int), (cA_4, .int), (cA_6, .char), (cA_8, .int), (cA_10, .boolean), (cA_12, .boolean), (cA_14, .boolean), (cA_16, .boolean), (cA_18, .boolean)] s := hK
  refine W.widen (k := 9) (n := 63) (Nat.le_of_ble_eq_true rfl) (Nat.le_of_ble_eq_true rfl) ?_
  refine va_putF (D := (dC, dI)) (ci := 6) (v := .ref a_17) (ty := (.array .boolean)) (C := RX6) (T := TX6) (N := 11) hx hb hq i_X6 tyX6 tyX6_ok nmX6 hown hK hP hD hS 0 rfl rfl 8 (by decide) (hq _ q_168) (fun _ h9 => h9) rfl hin rfl (by decide +kernel) rfl rfl (Nat.le_of_ble_eq_true rfl) dX6_init_73 (fun H locs hP hD hS => ?_)
  have hP : va_P (dC, dI) cls [(h0, .inr (6, [.ref a_1, .ref a_3, .ref a_5, .ref a_7, .ref a_9, .ref a_11, .ref a_13, .ref a_15, .ref a_17, .null, .null])), (a_1, .inl (cA_2, 7, .inl (fun _ => 0))), (a_3, .inl (cA_4, 7, .inl (fun _ => 0))), (a_5, .inl (cA_6, 7, .inl (fun _ => 0))), (a_7, .inl (cA_8, 7, .inl (fun _ => 0))), (a_9, .inl (cA_10, 7, .inl (fun _ => 0))), (a_11, .inl (cA_12, 7, .inl (fun _ => 0))), (a_13, .inl (cA_14, 7, .inl (fun _ => 0))), (a_15, .inl (cA_16, 7, .inl (fun _ => 0))), (a_17, .inl (cA_18, 7, .inl (fun _ => 0)))] H := hP
  have hD : va_D A [(h0, .inr (6, [.ref a_1, .ref a_3, .ref a_5, .ref a_7, .ref a_9, .ref a_11, .ref a_13, .ref a_15, .ref a_17, .null, .null])), (a_1, .inl (cA_2, 7, .inl (fun _ => 0))), (a_3, .inl (cA_4, 7, .inl (fun _ => 0))), (a_5, .inl (cA_6, 7, .inl (fun _ => 0))), (a_7, .inl (cA_8, 7, .inl (fun _ => 0))), (a_9, .inl (cA_10, 7, .inl (fun _ => 0))), (a_11, .inl (cA_12, 7, .inl (fun _ => 0))), (a_13, .inl (cA_14, 7, .inl (fun _ => 0))), (a_15, .inl (cA_16, 7, .inl (fun _ => 0))), (a_17, .inl (cA_18, 7, .inl (fun _ => 0)))] := hD
  refine lv_aload_n hx hb dX6_init_76 rfl (lv_at hl 0 rfl) ?_
  refine lv_bipush (v := 7) hx hb dX6_init_77 (by decide) ?_
  refine va_newa (atype := .boolean) (a0 := (7, .inl (fun _ => 0))) hx hb (hq _ q_82) rfl hK hP hD hS hA (fun _ => rfl) (by decide) (by decide) (Nat.le_of_ble_eq_true rfl) (Nat.le_of_ble_eq_true rfl) (Nat.le_of_ble_eq_true rfl) dX6_init_79 (fun a_19 cA_20 H hK hP hD hS => ?_)
  have hP : va_P (dC, dI) cls [(h0, .inr (6, [.ref a_1, .ref a_3, .ref a_5, .ref a_7, .ref a_9, .ref a_11, .ref a_13, .ref a_15, .ref a_17, .null, .null])), (a_1, .inl (cA_2, 7, .inl (fun _ => 0))), (a_3, .inl (cA_4, 7, .inl (fun _ => 0))), (a_5, .inl (cA_6, 7, .inl (fun _ => 0))), (a_7, .inl (cA_8, 7, .inl (fun _ => 0))), (a_9, .inl (cA_10, 7, .inl (fun _ => 0))), (a_11, .inl (cA_12, 7, .inl (fun _ => 0))), (a_13, .inl (cA_14, 7, .inl (fun _ => 0))), (a_15, .inl (cA_16, 7, .inl (fun _ => 0))), (a_17, .inl (cA_18, 7, .inl (fun _ => 0))), (a_19, .inl (cA_20, 7, .inl (fun _ => 0)))] H := hP
  have hD : va_D A [(h0, .inr (6, [.ref a_1, .ref a_3, .ref a_5, .ref a_7, .ref a_9, .ref a_11, .ref a_13, .ref a_15, .ref a_17, .null, .null])), (a_1, .inl (cA_2, 7, .inl (fun _ => 0))), (a_3, .inl (cA_4, 7, .inl (fun _ => 0))), (a_5, .inl (cA_6, 7, .inl (fun _ => 0))), (a_7, .inl (cA_8, 7, .inl (fun _ => 0))), (a_9, .inl (cA_10, 7, .inl (fun _ => 0))), (a_11, .inl (cA_12, 7, .inl (fun _ => 0))), (a_13, .inl (cA_14, 7, .inl (fun _ => 0))), (a_15, .inl (cA_16, 7, .inl (fun _ => 0))), (a_17, .inl (cA_18, 7, .inl (fun _ => 0))), (a_19, .inl (cA_20, 7, .inl (fun _ => 0)))] := hD
  have hK : va_K (dC, dI) cls [(cA_2, .int), (cA_4, .int), (cA_6, .char), (cA_8, .int), (cA_10, .boolean), (cA_12, .boolean), (cA_14, .boolean), (cA_16, .boolean), (cA_18, .boolean), (cA_20, .boolean)] s := hK
  refine W.widen (k := 10) (n := 70) (Nat.le_of_ble_eq_true rfl) (Nat.le_of_ble_eq_true rfl) ?_
  refine va_putF (D := (dC, dI)) (ci := 6) (v := .ref a_19) (ty := (.array .boolean)) (C := RX6) (T := TX6) (N := 11) hx hb hq i_X6 tyX6 tyX6_ok nmX6 hown hK hP hD hS 0 rfl rfl 9 (by decide) (hq _ q_169) (fun _ h9 => h9) rfl hin rfl (by decide +kernel) rfl rfl (Nat.le_of_ble_eq_true rfl) dX6_init_81 (fun H locs hP hD hS => ?_)
  have hP : va_P (dC, dI) cls [(h0, .inr (6, [.ref a_1, .ref a_3, .ref a_5, .ref a_7, .ref a_9, .ref a_11, .ref a_13, .ref a_15, .ref a_17, .ref a_19, .null])), (a_1, .inl (cA_2, 7, .inl (fun _ => 0))), (a_3, .inl (cA_4, 7, .inl (fun _ => 0))), (a_5, .inl (cA_6, 7, .inl (fun _ => 0))), (a_7, .inl (cA_8, 7, .inl (fun _ => 0))), (a_9, .inl (cA_10, 7, .inl (fun _ => 0))), (a_11, .inl (cA_12, 7, .inl (fun _ => 0))), (a_13, .inl (cA_14, 7, .inl (fun _ => 0))), (a_15, .inl (cA_16, 7, .inl (fun _ => 0))), (a_17, .inl (cA_18, 7, .inl (fun _ => 0))), (a_19, .inl (cA_20, 7, .inl (fun _ => 0)))] H := hP
  have hD : va_D A [(h0, .inr (6, [.ref a_1, .ref a_3, .ref a_5, .ref a_7, .ref a_9, .ref a_11, .ref a_13, .ref a_15, .ref a_17, .ref a_19, .null])), (a_1, .inl (cA_2, 7, .inl (fun _ => 0))), (a_3, .inl (cA_4, 7, .inl (fun _ => 0))), (a_5, .inl (cA_6, 7, .inl (fun _ => 0))), (a_7, .inl (cA_8, 7, .inl (fun _ => 0))), (a_9, .inl (cA_10, 7, .inl (fun _ => 0))), (a_11, .inl (cA_12, 7, .inl (fun _ => 0))), (a_13, .inl (cA_14, 7, .inl (fun _ => 0))), (a_15, .inl (cA_16, 7, .inl (fun _ => 0))), (a_17, .inl (cA_18, 7, .inl (fun _ => 0))), (a_19, .inl (cA_20, 7, .inl (fun _ => 0)))] := hD
  refine lv_aload_n hx hb dX6_init_84 rfl (lv_at hl 0 rfl) ?_
  refine lv_bipush (v := 7) hx hb dX6_init_85 (by decide) ?_
  refine va_newa (atype := .char) (a0 := (7, .inl (fun _ => 0))) hx hb (hq _ q_80) rfl hK hP hD hS hA (fun _ => rfl) (by decide) (by decide) (Nat.le_of_ble_eq_true rfl) (Nat.le_of_ble_eq_true rfl) (Nat.le_of_ble_eq_true rfl) dX6_init_87 (fun a_21 cA_22 H hK hP hD hS => ?_)
  have hP : va_P (dC, dI) cls [(h0, .inr (6, [.ref a_1, .ref a_3, .ref a_5, .ref a_7, .ref a_9, .ref a_11, .ref a_13, .ref a_15, .ref a_17, .ref a_19, .null])), (a_1, .inl (cA_2, 7, .inl (fun _ => 0))), (a_3, .inl (cA_4, 7, .inl (fun _ => 0))), (a_5, .inl (cA_6, 7, .inl (fun _ => 0))), (a_7, .inl (cA_8, 7, .inl (fun _ => 0))), (a_9, .inl (cA_10, 7, .inl (fun _ => 0))), (a_11, .inl (cA_12, 7, .inl (fun _ => 0))), (a_13, .inl (cA_14, 7, .inl (fun _ => 0))), (a_15, .inl (cA_16, 7, .inl (fun _ => 0))), (a_17, .inl (cA_18, 7, .inl (fun _ => 0))), (a_19, .inl (cA_20, 7, .inl (fun _ => 0))), (a_21, .inl (cA_22, 7, .inl (fun _ => 0)))] H := hP
  have hD : va_D A [(h0, .inr (6, [.ref a_1, .ref a_3, .ref a_5, .ref a_7, .ref a_9, .ref a_11, .ref a_13, .ref a_15, .ref a_17, .ref a_19, .null])), (a_1, .inl (cA_2, 7, .inl (fun _ => 0))), (a_3, .inl (cA_4, 7, .inl (fun _ => 0))), (a_5, .inl (cA_6, 7, .inl (fun _ => 0))), (a_7, .inl (cA_8, 7, .inl (fun _ => 0))), (a_9, .inl (cA_10, 7, .inl (fun _ => 0))), (a_11, .inl (cA_12, 7, .inl (fun _ => 0))), (a_13, .inl (cA_14, 7, .inl (fun _ => 0))), (a_15, .inl (cA_16, 7, .inl (fun _ => 0))), (a_17, .inl (cA_18, 7, .inl (fun _ => 0))), (a_19, .inl (cA_20, 7, .inl (fun _ => 0))), (a_21, .inl (cA_22, 7, .inl (fun _ => 0)))] := hD
  have hK : va_K (dC, dI) cls [(cA_2, .int), (cA_4, .int), (cA_6, .char), (cA_8, .int), (cA_10, .boolean), (cA_12, .boolean), (cA_14, .boolean), (cA_16, .boolean), (cA_18, .boolean), (cA_20, .boolean), (cA_22, .char)] s := hK
  refine W.widen (k := 11) (n := 77) (Nat.le_of_ble_eq_true rfl) (Nat.le_of_ble_eq_true rfl) ?_
  refine va_putF (D := (dC, dI)) (ci := 6) (v := .ref a_21) (ty := (.array .char)) (C := RX6) (T := TX6) (N := 11) hx hb hq i_X6 tyX6 tyX6_ok nmX6 hown hK hP hD hS 0 rfl rfl 10 (by decide) (hq _ q_170) (fun _ h9 => h9) rfl hin rfl (by decide +kernel) rfl rfl (Nat.le_of_ble_eq_true rfl) dX6_init_89 (fun H locs hP hD hS => ?_)
  have hP : va_P (dC, dI) cls [(h0, .inr (6, [.ref a_1, .ref a_3, .ref a_5, .ref a_7, .ref a_9, .ref a_11, .ref a_13, .ref a_15, .ref a_17, .ref a_19, .ref a_21])), (a_1, .inl (cA_2, 7, .inl (fun _ => 0))), (a_3, .inl (cA_4, 7, .inl (fun _ => 0))), (a_5, .inl (cA_6, 7, .inl (fun _ => 0))), (a_7, .inl (cA_8, 7, .inl (fun _ => 0))), (a_9, .inl (cA_10, 7, .inl (fun _ => 0))), (a_11, .inl (cA_12, 7, .inl (fun _ => 0))), (a_13, .inl (cA_14, 7, .inl (fun _ => 0))), (a_15, .inl (cA_16, 7, .inl (fun _ => 0))), (a_17, .inl (cA_18, 7, .inl (fun _ => 0))), (a_19, .inl (cA_20, 7, .inl (fun _ => 0))), (a_21, .inl (cA_22, 7, .inl (fun _ => 0)))] H := hP
  have hD : va_D A [(h0, .inr (6, [.ref a_1, .ref a_3, .ref a_5, .ref a_7, .ref a_9, .ref a_11, .ref a_13, .ref a_15, .ref a_17, .ref a_19, .ref a_21])), (a_1, .inl (cA_2, 7, .inl (fun _ => 0))), (a_3, .inl (cA_4, 7, .inl (fun _ => 0))), (a_5, .inl (cA_6, 7, .inl (fun _ => 0))), (a_7, .inl (cA_8, 7, .inl (fun _ => 0))), (a_9, .inl (cA_10, 7, .inl (fun _ => 0))), (a_11, .inl (cA_12, 7, .inl (fun _ => 0))), (a_13, .inl (cA_14, 7, .inl (fun _ => 0))), (a_15, .inl (cA_16, 7, .inl (fun _ => 0))), (a_17, .inl (cA_18, 7, .inl (fun _ => 0))), (a_19, .inl (cA_20, 7, .inl (fun _ => 0))), (a_21, .inl (cA_22, 7, .inl (fun _ => 0)))] := hD
  refine W.widen (k := 11) (n := 77) (Nat.le_of_ble_eq_true rfl) (Nat.le_of_ble_eq_true rfl) ?_
  exact W.vret hx hb hr (fun t ht hW => ⟨⟨(), rfl, trivial, trivial⟩, hS.F ht⟩) hS.2.2 dX6_init_92
abbrev cX2_init : ByteArray := prog_4_method_1_code
def yX2_init : MethodName := ⟨RX2, "<init>", "()V"⟩
theorem dX2_init_0 : decode cX2_init 0 = .ok (.aload_n 0, 1) := by decide +kernel
theorem dX2_init_1 : decode cX2_init 1 = .ok (.invokespecial 3, 3) := by decide +kernel
theorem q_88 : (Cond.methodLink "NightfallVillage$Deal" 3 objectInit) ∈ tw := tw_in (i := 88) (by decide +kernel) (by decide +kernel)
theorem dX2_init_4 : decode cX2_init 4 = .ok (.aload_n 0, 1) := by decide +kernel
theorem dX2_init_5 : decode cX2_init 5 = .ok (.bipush 7, 2) := by decide +kernel
theorem dX2_init_7 : decode cX2_init 7 = .ok (.newarray .int, 2) := by decide +kernel
theorem dX2_init_9 : decode cX2_init 9 = .ok (.putfield 9, 3) := by decide +kernel
theorem q_89 : (Cond.fieldLink "NightfallVillage$Deal" 9 "NightfallVillage$Deal" "dealtRoles" "[I") ∈ tw := tw_in (i := 89) (by decide +kernel) (by decide +kernel)
theorem dX2_init_12 : decode cX2_init 12 = .ok (.aload_n 0, 1) := by decide +kernel
theorem dX2_init_13 : decode cX2_init 13 = .ok (.bipush 7, 2) := by decide +kernel
theorem dX2_init_15 : decode cX2_init 15 = .ok (.newarray .int, 2) := by decide +kernel
theorem dX2_init_17 : decode cX2_init 17 = .ok (.putfield 15, 3) := by decide +kernel
theorem q_90 : (Cond.fieldLink "NightfallVillage$Deal" 15 "NightfallVillage$Deal" "forebears" "[I") ∈ tw := tw_in (i := 90) (by decide +kernel) (by decide +kernel)
theorem dX2_init_20 : decode cX2_init 20 = .ok (.aload_n 0, 1) := by decide +kernel
theorem dX2_init_21 : decode cX2_init 21 = .ok (.bipush 7, 2) := by decide +kernel
theorem dX2_init_23 : decode cX2_init 23 = .ok (.newarray .int, 2) := by decide +kernel
theorem dX2_init_25 : decode cX2_init 25 = .ok (.putfield 18, 3) := by decide +kernel
theorem q_91 : (Cond.fieldLink "NightfallVillage$Deal" 18 "NightfallVillage$Deal" "marks" "[I") ∈ tw := tw_in (i := 91) (by decide +kernel) (by decide +kernel)
theorem dX2_init_28 : decode cX2_init 28 = .ok (.aload_n 0, 1) := by decide +kernel
theorem dX2_init_29 : decode cX2_init 29 = .ok (.iconst (-1), 1) := by decide +kernel
theorem dX2_init_30 : decode cX2_init 30 = .ok (.putfield 21, 3) := by decide +kernel
theorem q_96 : (Cond.fieldLink "NightfallVillage$Deal" 21 "NightfallVillage$Deal" "lover" "I") ∈ tw := tw_in (i := 96) (by decide +kernel) (by decide +kernel)
theorem dX2_init_33 : decode cX2_init 33 = .ok (.aload_n 0, 1) := by decide +kernel
theorem dX2_init_34 : decode cX2_init 34 = .ok (.iconst (-1), 1) := by decide +kernel
theorem dX2_init_35 : decode cX2_init 35 = .ok (.putfield 25, 3) := by decide +kernel
theorem q_97 : (Cond.fieldLink "NightfallVillage$Deal" 25 "NightfallVillage$Deal" "otherLover" "I") ∈ tw := tw_in (i := 97) (by decide +kernel) (by decide +kernel)
theorem dX2_init_38 : decode cX2_init 38 = .ok (.return_, 1) := by decide +kernel
set_option maxHeartbeats 4000000 in
set_option maxRecDepth 100000 in
theorem c_Deal_init (l : Launch) (hst : l.stackTraces = false) (tE : Nat) (adK adV : Nat → Nat) (dC : Nat → ClassId) (dI : Nat → Nat → Nat) (h0 : Nat) (sz : Nat) : Met l yX2_init (Cond.code yX2_init cX2_init 1 none :: tw) ({ frames := 1, cells := 3, slots := 21, locals := 12 }) (va_Pc [.ref h0] (pre tE adK adV (dC, dI) [(h0, .inr (2, [.null, .null, .null, .int 0, .int 0, .int 0]))] [] sz)) (va_Qv (fun (_ : Unit) => True) (fun (_ : Unit) (t : State) => ∃ (q1 : Nat) (q2 : Nat) (q3 : Nat), va_P (dC, dI) cls [(h0, .inr (2, [.ref q1, .ref q2, .ref q3, .int 0, .int (-1), .int (-1)]))] t.heap ∧ va_K (dC, dI) cls [] t ∧ va_D (va_A [(h0, .inr (2, [.null, .null, .null, .int 0, .int 0, .int 0]))] sz) [(h0, .inr (2, [.ref q1, .ref q2, .ref q3, .int 0, .int (-1), .int (-1)]))]) (va_A [(h0, .inr (2, [.null, .null, .null, .int 0, .int 0, .int 0]))] sz)) 3 21 (va_A [(h0, .inr (2, [.null, .null, .null, .int 0, .int 0, .int 0]))] sz) := by
  refine Met.ofW (cc := cX2_init) (maxL := 1) (ret := none) (by decide) rfl ?_
  intro p e s m args below meth c s₁ B hml hv
  obtain ⟨rfl, hsz, hP, hK, hD0, ham⟩ := hv
  have hx := B.exec
  have hb := B.bytes
  have hr := B.returns
  have hts := atoms_spec B.pre
  have hq : ∀ w ∈ tw, w.before _ s = true := fun w h => hts w (List.mem_cons_of_mem _ h)
  have hown : s.vm.findClass RX2 = some m.cls := findClass_of_methodNamed B.named
  have hlocks := B.notSynchronized
  have hin : meth.name = "<init>" := (name_of_methodNamed B.named B.method).1
  subst hsz
  have hD := hD0.self (sz := s.heap.size)
  generalize hAe : va_A [(h0, .inr (2, [.null, .null, .null, .int 0, .int 0, .int 0]))] s.heap.size = A at hD ham ⊢
  have hA : ∀ q : Nat, s.heap.size ≤ q → A q := fun q h => by rw [← hAe]; exact Or.inr h
  have hS : va_S A s.heap s.heap [] := va_S.rf
  have hP : va_P (dC, dI) cls [(h0, .inr (2, [.null, .null, .null, .int 0, .int 0, .int 0]))] s.heap := hP
  have hl := lv_entry ([.ref h0]) (n := 1) (Nat.le_of_ble_eq_true rfl)
  rw [lg_entry_eq]
  generalize (lg_sl ([.ref h0]) ++ List.replicate (1 - (lg_sl ([.ref h0])).length) Slot.unset).toArray = ls at hl ⊢
  have hl : lv_has ls 1 [(0, .ref h0)] := hl
  refine lv_aload_n hx hb dX2_init_0 rfl (lv_at hl 0 rfl) ?_
  refine W.objInit hx hb hown (hq _ q_88) (hq _ q_45) (hq _ q_46) rfl (by rw [hml]; exact hl.1) rfl dX2_init_1 (Nat.le_of_ble_eq_true rfl) (Nat.le_of_ble_eq_true rfl) ?_
  refine W.eq (g2 := F0 m 4 ls []) rfl ?_
  refine lv_aload_n hx hb dX2_init_4 rfl (lv_at hl 0 rfl) ?_
  refine lv_bipush (v := 7) hx hb dX2_init_5 (by decide) ?_
  refine va_newa (atype := .int) (a0 := (7, .inl (fun _ => 0))) hx hb (hq _ q_81) rfl hK hP hD hS hA (fun _ => rfl) (by decide) (by decide) (Nat.le_of_ble_eq_true rfl) (Nat.le_of_ble_eq_true rfl) (Nat.le_of_ble_eq_true rfl) dX2_init_7 (fun a_1 cA_2 H hK hP hD hS => ?_)
  have hP : va_P (dC, dI) cls [(h0, .inr (2, [.null, .null, .null, .int 0, .int 0, .int 0])), (a_1, .inl (cA_2, 7, .inl (fun _ => 0)))] H := hP
  have hD : va_D A [(h0, .inr (2, [.null, .null, .null, .int 0, .int 0, .int 0])), (a_1, .inl (cA_2, 7, .inl (fun _ => 0)))] := hD
  have hK : va_K (dC, dI) cls [(cA_2, .int)] s := hK
  refine W.widen (k := 1) (n := 7) (Nat.le_of_ble_eq_true rfl) (Nat.le_of_ble_eq_true rfl) ?_
  refine va_putF (D := (dC, dI)) (ci := 2) (v := .ref a_1) (ty := (.array .int)) (C := RX2) (T := TX2) (N := 6) hx hb hq i_X2 tyX2 tyX2_ok nmX2 hown hK hP hD hS 0 rfl rfl 0 (by decide) (hq _ q_89) (fun _ h9 => h9) rfl hin rfl (by decide +kernel) rfl rfl (Nat.le_of_ble_eq_true rfl) dX2_init_9 (fun H locs hP hD hS => ?_)
  have hP : va_P (dC, dI) cls [(h0, .inr (2, [.ref a_1, .null, .null, .int 0, .int 0, .int 0])), (a_1, .inl (cA_2, 7, .inl (fun _ => 0)))] H := hP
  have hD : va_D A [(h0, .inr (2, [.ref a_1, .null, .null, .int 0, .int 0, .int 0])), (a_1, .inl (cA_2, 7, .inl (fun _ => 0)))] := hD
  refine lv_aload_n hx hb dX2_init_12 rfl (lv_at hl 0 rfl) ?_
  refine lv_bipush (v := 7) hx hb dX2_init_13 (by decide) ?_
  refine va_newa (atype := .int) (a0 := (7, .inl (fun _ => 0))) hx hb (hq _ q_81) rfl hK hP hD hS hA (fun _ => rfl) (by decide) (by decide) (Nat.le_of_ble_eq_true rfl) (Nat.le_of_ble_eq_true rfl) (Nat.le_of_ble_eq_true rfl) dX2_init_15 (fun a_3 cA_4 H hK hP hD hS => ?_)
  have hP : va_P (dC, dI) cls [(h0, .inr (2, [.ref a_1, .null, .null, .int 0, .int 0, .int 0])), (a_1, .inl (cA_2, 7, .inl (fun _ => 0))), (a_3, .inl (cA_4, 7, .inl (fun _ => 0)))] H := hP
  have hD : va_D A [(h0, .inr (2, [.ref a_1, .null, .null, .int 0, .int 0, .int 0])), (a_1, .inl (cA_2, 7, .inl (fun _ => 0))), (a_3, .inl (cA_4, 7, .inl (fun _ => 0)))] := hD
  have hK : va_K (dC, dI) cls [(cA_2, .int), (cA_4, .int)] s := hK
  refine W.widen (k := 2) (n := 14) (Nat.le_of_ble_eq_true rfl) (Nat.le_of_ble_eq_true rfl) ?_
  refine va_putF (D := (dC, dI)) (ci := 2) (v := .ref a_3) (ty := (.array .int)) (C := RX2) (T := TX2) (N := 6) hx hb hq i_X2 tyX2 tyX2_ok nmX2 hown hK hP hD hS 0 rfl rfl 1 (by decide) (hq _ q_90) (fun _ h9 => h9) rfl hin rfl (by decide +kernel) rfl rfl (Nat.le_of_ble_eq_true rfl) dX2_init_17 (fun H locs hP hD hS => ?_)
  have hP : va_P (dC, dI) cls [(h0, .inr (2, [.ref a_1, .ref a_3, .null, .int 0, .int 0, .int 0])), (a_1, .inl (cA_2, 7, .inl (fun _ => 0))), (a_3, .inl (cA_4, 7, .inl (fun _ => 0)))] H := hP
  have hD : va_D A [(h0, .inr (2, [.ref a_1, .ref a_3, .null, .int 0, .int 0, .int 0])), (a_1, .inl (cA_2, 7, .inl (fun _ => 0))), (a_3, .inl (cA_4, 7, .inl (fun _ => 0)))] := hD
  refine lv_aload_n hx hb dX2_init_20 rfl (lv_at hl 0 rfl) ?_
  refine lv_bipush (v := 7) hx hb dX2_init_21 (by decide) ?_
  refine va_newa (atype := .int) (a0 := (7, .inl (fun _ => 0))) hx hb (hq _ q_81) rfl hK hP hD hS hA (fun _ => rfl) (by decide) (by decide) (Nat.le_of_ble_eq_true rfl) (Nat.le_of_ble_eq_true rfl) (Nat.le_of_ble_eq_true rfl) dX2_init_23 (fun a_5 cA_6 H hK hP hD hS => ?_)
  have hP : va_P (dC, dI) cls [(h0, .inr (2, [.ref a_1, .ref a_3, .null, .int 0, .int 0, .int 0])), (a_1, .inl (cA_2, 7, .inl (fun _ => 0))), (a_3, .inl (cA_4, 7, .inl (fun _ => 0))), (a_5, .inl (cA_6, 7, .inl (fun _ => 0)))] H := hP
  have hD : va_D A [(h0, .inr (2, [.ref a_1, .ref a_3, .null, .int 0, .int 0, .int 0])), (a_1, .inl (cA_2, 7, .inl (fun _ => 0))), (a_3, .inl (cA_4, 7, .inl (fun _ => 0))), (a_5, .inl (cA_6, 7, .inl (fun _ => 0)))] := hD
  have hK : va_K (dC, dI) cls [(cA_2, .int), (cA_4, .int), (cA_6, .int)] s := hK
  refine W.widen (k := 3) (n := 21) (Nat.le_of_ble_eq_true rfl) (Nat.le_of_ble_eq_true rfl) ?_
  refine va_putF (D := (dC, dI)) (ci := 2) (v := .ref a_5) (ty := (.array .int)) (C := RX2) (T := TX2) (N := 6) hx hb hq i_X2 tyX2 tyX2_ok nmX2 hown hK hP hD hS 0 rfl rfl 2 (by decide) (hq _ q_91) (fun _ h9 => h9) rfl hin rfl (by decide +kernel) rfl rfl (Nat.le_of_ble_eq_true rfl) dX2_init_25 (fun H locs hP hD hS => ?_)
  have hP : va_P (dC, dI) cls [(h0, .inr (2, [.ref a_1, .ref a_3, .ref a_5, .int 0, .int 0, .int 0])), (a_1, .inl (cA_2, 7, .inl (fun _ => 0))), (a_3, .inl (cA_4, 7, .inl (fun _ => 0))), (a_5, .inl (cA_6, 7, .inl (fun _ => 0)))] H := hP
  have hD : va_D A [(h0, .inr (2, [.ref a_1, .ref a_3, .ref a_5, .int 0, .int 0, .int 0])), (a_1, .inl (cA_2, 7, .inl (fun _ => 0))), (a_3, .inl (cA_4, 7, .inl (fun _ => 0))), (a_5, .inl (cA_6, 7, .inl (fun _ => 0)))] := hD
  refine lv_aload_n hx hb dX2_init_28 rfl (lv_at hl 0 rfl) ?_
  refine lv_iconst (v := (-1)) hx hb dX2_init_29 (by decide) ?_
  refine va_put (D := (dC, dI)) (ci := 2) (v := .int (-1)) (ty := .int) (C := RX2) (T := TX2) (N := 6) hx hb hq i_X2 tyX2 tyX2_ok nmX2 hown hK hP hD hS 0 rfl rfl 4 (by decide) (hq _ q_96) (fun _ h9 => h9) rfl (by decide +kernel) rfl rfl (Nat.le_of_ble_eq_true rfl) dX2_init_30 (fun H locs hP hD hS => ?_)
  have hP : va_P (dC, dI) cls [(h0, .inr (2, [.ref a_1, .ref a_3, .ref a_5, .int 0, .int (-1), .int 0])), (a_1, .inl (cA_2, 7, .inl (fun _ => 0))), (a_3, .inl (cA_4, 7, .inl (fun _ => 0))), (a_5, .inl (cA_6, 7, .inl (fun _ => 0)))] H := hP
  have hD : va_D A [(h0, .inr (2, [.ref a_1, .ref a_3, .ref a_5, .int 0, .int (-1), .int 0])), (a_1, .inl (cA_2, 7, .inl (fun _ => 0))), (a_3, .inl (cA_4, 7, .inl (fun _ => 0))), (a_5, .inl (cA_6, 7, .inl (fun _ => 0)))] := hD
  refine lv_aload_n hx hb dX2_init_33 rfl (lv_at hl 0 rfl) ?_
  refine lv_iconst (v := (-1)) hx hb dX2_init_34 (by decide) ?_
  refine va_put (D := (dC, dI)) (ci := 2) (v := .int (-1)) (ty := .int) (C := RX2) (T := TX2) (N := 6) hx hb hq i_X2 tyX2 tyX2_ok nmX2 hown hK hP hD hS 0 rfl rfl 5 (by decide) (hq _ q_97) (fun _ h9 => h9) rfl (by decide +kernel) rfl rfl (Nat.le_of_ble_eq_true rfl) dX2_init_35 (fun H locs hP hD hS => ?_)
  have hP : va_P (dC, dI) cls [(h0, .inr (2, [.ref a_1, .ref a_3, .ref a_5, .int 0, .int (-1), .int (-1)])), (a_1, .inl (cA_2, 7, .inl (fun _ => 0))), (a_3, .inl (cA_4, 7, .inl (fun _ => 0))), (a_5, .inl (cA_6, 7, .inl (fun _ => 0)))] H := hP
  have hD : va_D A [(h0, .inr (2, [.ref a_1, .ref a_3, .ref a_5, .int 0, .int (-1), .int (-1)])), (a_1, .inl (cA_2, 7, .inl (fun _ => 0))), (a_3, .inl (cA_4, 7, .inl (fun _ => 0))), (a_5, .inl (cA_6, 7, .inl (fun _ => 0)))] := hD
  refine W.widen (k := 3) (n := 21) (Nat.le_of_ble_eq_true rfl) (Nat.le_of_ble_eq_true rfl) ?_
  have hP9 := hP.sub (ws' := [(h0, .inr (2, [.ref a_1, .ref a_3, .ref a_5, .int 0, .int (-1), .int (-1)]))]) [0] rfl
  have hD9 := hD.sub (ws' := [(h0, .inr (2, [.ref a_1, .ref a_3, .ref a_5, .int 0, .int (-1), .int (-1)]))]) [0] (by decide) rfl
  have hK9 := hK.sub (tys' := []) [] rfl
  exact W.vret hx hb hr (fun t ht hW => ⟨⟨(), rfl, trivial, ⟨a_1, a_3, a_5, by rw [ht]; exact hP9, va_K.moved hW.alike hK9, hD9⟩⟩, hS.F ht⟩) hS.2.2 dX2_init_38
abbrev cX7_init : ByteArray := prog_9_method_1_code
def yX7_init : MethodName := ⟨RX7, "<init>", "()V"⟩
theorem dX7_init_0 : decode cX7_init 0 = .ok (.aload_n 0, 1) := by decide +kernel
theorem dX7_init_1 : decode cX7_init 1 = .ok (.invokespecial 3, 3) := by decide +kernel
theorem q_52 : (Cond.methodLink "NightfallVillage$Roles" 3 objectInit) ∈ tw := tw_in (i := 52) (by decide +kernel) (by decide +kernel)
theorem dX7_init_4 : decode cX7_init 4 = .ok (.aload_n 0, 1) := by decide +kernel
theorem dX7_init_5 : decode cX7_init 5 = .ok (.bipush 8, 2) := by decide +kernel
theorem dX7_init_7 : decode cX7_init 7 = .ok (.newarray .char, 2) := by decide +kernel
theorem dX7_init_9 : decode cX7_init 9 = .ok (.putfield 9, 3) := by decide +kernel
theorem q_53 : (Cond.fieldLink "NightfallVillage$Roles" 9 "NightfallVillage$Roles" "sides" "[C") ∈ tw := tw_in (i := 53) (by decide +kernel) (by decide +kernel)
theorem dX7_init_12 : decode cX7_init 12 = .ok (.aload_n 0, 1) := by decide +kernel
theorem dX7_init_13 : decode cX7_init 13 = .ok (.bipush 8, 2) := by decide +kernel
theorem dX7_init_15 : decode cX7_init 15 = .ok (.newarray .char, 2) := by decide +kernel
theorem dX7_init_17 : decode cX7_init 17 = .ok (.putfield 15, 3) := by decide +kernel
theorem q_54 : (Cond.fieldLink "NightfallVillage$Roles" 15 "NightfallVillage$Roles" "acts" "[C") ∈ tw := tw_in (i := 54) (by decide +kernel) (by decide +kernel)
theorem dX7_init_20 : decode cX7_init 20 = .ok (.aload_n 0, 1) := by decide +kernel
theorem dX7_init_21 : decode cX7_init 21 = .ok (.bipush 8, 2) := by decide +kernel
theorem dX7_init_23 : decode cX7_init 23 = .ok (.newarray .int, 2) := by decide +kernel
theorem dX7_init_25 : decode cX7_init 25 = .ok (.putfield 18, 3) := by decide +kernel
theorem q_55 : (Cond.fieldLink "NightfallVillage$Roles" 18 "NightfallVillage$Roles" "weights" "[I") ∈ tw := tw_in (i := 55) (by decide +kernel) (by decide +kernel)
theorem dX7_init_28 : decode cX7_init 28 = .ok (.aload_n 0, 1) := by decide +kernel
theorem dX7_init_29 : decode cX7_init 29 = .ok (.bipush 8, 2) := by decide +kernel
theorem dX7_init_31 : decode cX7_init 31 = .ok (.newarray .boolean, 2) := by decide +kernel
theorem dX7_init_33 : decode cX7_init 33 = .ok (.putfield 22, 3) := by decide +kernel
theorem q_56 : (Cond.fieldLink "NightfallVillage$Roles" 22 "NightfallVillage$Roles" "once" "[Z") ∈ tw := tw_in (i := 56) (by decide +kernel) (by decide +kernel)
theorem dX7_init_36 : decode cX7_init 36 = .ok (.aload_n 0, 1) := by decide +kernel
theorem dX7_init_37 : decode cX7_init 37 = .ok (.bipush 8, 2) := by decide +kernel
theorem dX7_init_39 : decode cX7_init 39 = .ok (.newarray .boolean, 2) := by decide +kernel
theorem dX7_init_41 : decode cX7_init 41 = .ok (.putfield 26, 3) := by decide +kernel
theorem q_57 : (Cond.fieldLink "NightfallVillage$Roles" 26 "NightfallVillage$Roles" "fools" "[Z") ∈ tw := tw_in (i := 57) (by decide +kernel) (by decide +kernel)
theorem dX7_init_44 : decode cX7_init 44 = .ok (.aload_n 0, 1) := by decide +kernel
theorem dX7_init_45 : decode cX7_init 45 = .ok (.bipush 8, 2) := by decide +kernel
theorem dX7_init_47 : decode cX7_init 47 = .ok (.newarray .boolean, 2) := by decide +kernel
theorem dX7_init_49 : decode cX7_init 49 = .ok (.putfield 29, 3) := by decide +kernel
theorem q_58 : (Cond.fieldLink "NightfallVillage$Roles" 29 "NightfallVillage$Roles" "hunters" "[Z") ∈ tw := tw_in (i := 58) (by decide +kernel) (by decide +kernel)
theorem dX7_init_52 : decode cX7_init 52 = .ok (.aload_n 0, 1) := by decide +kernel
theorem dX7_init_53 : decode cX7_init 53 = .ok (.bipush 8, 2) := by decide +kernel
theorem dX7_init_55 : decode cX7_init 55 = .ok (.newarray .int, 2) := by decide +kernel
theorem dX7_init_57 : decode cX7_init 57 = .ok (.putfield 32, 3) := by decide +kernel
theorem q_59 : (Cond.fieldLink "NightfallVillage$Roles" 32 "NightfallVillage$Roles" "looks" "[I") ∈ tw := tw_in (i := 59) (by decide +kernel) (by decide +kernel)
theorem dX7_init_60 : decode cX7_init 60 = .ok (.return_, 1) := by decide +kernel
set_option maxHeartbeats 4000000 in
set_option maxRecDepth 100000 in
theorem c_Roles_init (l : Launch) (hst : l.stackTraces = false) (tE : Nat) (adK adV : Nat → Nat) (dC : Nat → ClassId) (dI : Nat → Nat → Nat) (h0 : Nat) (sz : Nat) : Met l yX7_init (Cond.code yX7_init cX7_init 1 none :: tw) ({ frames := 1, cells := 7, slots := 56, locals := 12 }) (va_Pc [.ref h0] (pre tE adK adV (dC, dI) [(h0, .inr (7, [.null, .null, .null, .null, .null, .null, .null, .int 0]))] [] sz)) (va_Qv (fun (_ : Unit) => True) (fun (_ : Unit) (t : State) => ∃ (q1 : Nat) (q2 : Nat) (q3 : Nat) (q4 : Nat) (q5 : Nat) (q6 : Nat) (q7 : Nat) (k1 : ClassId) (k2 : ClassId) (k3 : ClassId) (k4 : ClassId) (k5 : ClassId) (k6 : ClassId) (k7 : ClassId), va_P (dC, dI) cls [(h0, .inr (7, [.ref q1, .ref q2, .ref q3, .ref q4, .ref q5, .ref q6, .ref q7, .int 0])), (q1, .inl (k1, 8, .inl (fun _ => 0))), (q2, .inl (k2, 8, .inl (fun _ => 0))), (q3, .inl (k3, 8, .inl (fun _ => 0))), (q4, .inl (k4, 8, .inl (fun _ => 0))), (q5, .inl (k5, 8, .inl (fun _ => 0))), (q6, .inl (k6, 8, .inl (fun _ => 0))), (q7, .inl (k7, 8, .inl (fun _ => 0)))] t.heap ∧ va_K (dC, dI) cls [(k1, .char), (k2, .char), (k3, .int), (k4, .boolean), (k5, .boolean), (k6, .boolean), (k7, .int)] t ∧ va_D (va_A [(h0, .inr (7, [.null, .null, .null, .null, .null, .null, .null, .int 0]))] sz) [(h0, .inr (7, [.ref q1, .ref q2, .ref q3, .ref q4, .ref q5, .ref q6, .ref q7, .int 0])), (q1, .inl (k1, 8, .inl (fun _ => 0))), (q2, .inl (k2, 8, .inl (fun _ => 0))), (q3, .inl (k3, 8, .inl (fun _ => 0))), (q4, .inl (k4, 8, .inl (fun _ => 0))), (q5, .inl (k5, 8, .inl (fun _ => 0))), (q6, .inl (k6, 8, .inl (fun _ => 0))), (q7, .inl (k7, 8, .inl (fun _ => 0)))]) (va_A [(h0, .inr (7, [.null, .null, .null, .null, .null, .null, .null, .int 0]))] sz)) 7 56 (va_A [(h0, .inr (7, [.null, .null, .null, .null, .null, .null, .null, .int 0]))] sz) := by
  refine Met.ofW (cc := cX7_init) (maxL := 1) (ret := none) (by decide) rfl ?_
  intro p e s m args below meth c s₁ B hml hv
  obtain ⟨rfl, hsz, hP, hK, hD0, ham⟩ := hv
  have hx := B.exec
  have hb := B.bytes
  have hr := B.returns
  have hts := atoms_spec B.pre
  have hq : ∀ w ∈ tw, w.before _ s = true := fun w h => hts w (List.mem_cons_of_mem _ h)
  have hown : s.vm.findClass RX7 = some m.cls := findClass_of_methodNamed B.named
  have hlocks := B.notSynchronized
  have hin : meth.name = "<init>" := (name_of_methodNamed B.named B.method).1
  subst hsz
  have hD := hD0.self (sz := s.heap.size)
  generalize hAe : va_A [(h0, .inr (7, [.null, .null, .null, .null, .null, .null, .null, .int 0]))] s.heap.size = A at hD ham ⊢
  have hA : ∀ q : Nat, s.heap.size ≤ q → A q := fun q h => by rw [← hAe]; exact Or.inr h
  have hS : va_S A s.heap s.heap [] := va_S.rf
  have hP : va_P (dC, dI) cls [(h0, .inr (7, [.null, .null, .null, .null, .null, .null, .null, .int 0]))] s.heap := hP
  have hl := lv_entry ([.ref h0]) (n := 1) (Nat.le_of_ble_eq_true rfl)
  rw [lg_entry_eq]
  generalize (lg_sl ([.ref h0]) ++ List.replicate (1 - (lg_sl ([.ref h0])).length) Slot.unset).toArray = ls at hl ⊢
  have hl : lv_has ls 1 [(0, .ref h0)] := hl
  refine lv_aload_n hx hb dX7_init_0 rfl (lv_at hl 0 rfl) ?_
  refine W.objInit hx hb hown (hq _ q_52) (hq _ q_45) (hq _ q_46) rfl (by rw [hml]; exact hl.1) rfl dX7_init_1 (Nat.le_of_ble_eq_true rfl) (Nat.le_of_ble_eq_true rfl) ?_
  refine W.eq (g2 := F0 m 4 ls []) rfl ?_
  refine lv_aload_n hx hb dX7_init_4 rfl (lv_at hl 0 rfl) ?_
  refine lv_bipush (v := 8) hx hb dX7_init_5 (by decide) ?_
  refine va_newa (atype := .char) (a0 := (8, .inl (fun _ => 0))) hx hb (hq _ q_80) rfl hK hP hD hS hA (fun _ => rfl) (by decide) (by decide) (Nat.le_of_ble_eq_true rfl) (Nat.le_of_ble_eq_true rfl) (Nat.le_of_ble_eq_true rfl) dX7_init_7 (fun a_1 cA_2 H hK hP hD hS => ?_)
  have hP : va_P (dC, dI) cls [(h0, .inr (7, [.null, .null, .null, .null, .null, .null, .null, .int 0])), (a_1, .inl (cA_2, 8, .inl (fun _ => 0)))] H := hP
  have hD : va_D A [(h0, .inr (7, [.null, .null, .null, .null, .null, .null, .null, .int 0])), (a_1, .inl (cA_2, 8, .inl (fun _ => 0)))] := hD
  have hK : va_K (dC, dI) cls [(cA_2, .char)] s := hK
  refine W.widen (k := 1) (n := 8) (Nat.le_of_ble_eq_true rfl) (Nat.le_of_ble_eq_true rfl) ?_
  refine va_putF (D := (dC, dI)) (ci := 7) (v := .ref a_1) (ty := (.array .char)) (C := RX7) (T := TX7) (N := 8) hx hb hq i_X7 tyX7 tyX7_ok nmX7 hown hK hP hD hS 0 rfl rfl 0 (by decide) (hq _ q_53) (fun _ h9 => h9) rfl hin rfl (by decide +kernel) rfl rfl (Nat.le_of_ble_eq_true rfl) dX7_init_9 (fun H locs hP hD hS => ?_)
  have hP : va_P (dC, dI) cls [(h0, .inr (7, [.ref a_1, .null, .null, .null, .null, .null, .null, .int 0])), (a_1, .inl (cA_2, 8, .inl (fun _ => 0)))] H := hP
  have hD : va_D A [(h0, .inr (7, [.ref a_1, .null, .null, .null, .null, .null, .null, .int 0])), (a_1, .inl (cA_2, 8, .inl (fun _ => 0)))] := hD
  refine lv_aload_n hx hb dX7_init_12 rfl (lv_at hl 0 rfl) ?_
  refine lv_bipush (v := 8) hx hb dX7_init_13 (by decide) ?_
  refine va_newa (atype := .char) (a0 := (8, .inl (fun _ => 0))) hx hb (hq _ q_80) rfl hK hP hD hS hA (fun _ => rfl) (by decide) (by decide) (Nat.le_of_ble_eq_true rfl) (Nat.le_of_ble_eq_true rfl) (Nat.le_of_ble_eq_true rfl) dX7_init_15 (fun a_3 cA_4 H hK hP hD hS => ?_)
  have hP : va_P (dC, dI) cls [(h0, .inr (7, [.ref a_1, .null, .null, .null, .null, .null, .null, .int 0])), (a_1, .inl (cA_2, 8, .inl (fun _ => 0))), (a_3, .inl (cA_4, 8, .inl (fun _ => 0)))] H := hP
  have hD : va_D A [(h0, .inr (7, [.ref a_1, .null, .null, .null, .null, .null, .null, .int 0])), (a_1, .inl (cA_2, 8, .inl (fun _ => 0))), (a_3, .inl (cA_4, 8, .inl (fun _ => 0)))] := hD
  have hK : va_K (dC, dI) cls [(cA_2, .char), (cA_4, .char)] s := hK
  refine W.widen (k := 2) (n := 16) (Nat.le_of_ble_eq_true rfl) (Nat.le_of_ble_eq_true rfl) ?_
  refine va_putF (D := (dC, dI)) (ci := 7) (v := .ref a_3) (ty := (.array .char)) (C := RX7) (T := TX7) (N := 8) hx hb hq i_X7 tyX7 tyX7_ok nmX7 hown hK hP hD hS 0 rfl rfl 1 (by decide) (hq _ q_54) (fun _ h9 => h9) rfl hin rfl (by decide +kernel) rfl rfl (Nat.le_of_ble_eq_true rfl) dX7_init_17 (fun H locs hP hD hS => ?_)
  have hP : va_P (dC, dI) cls [(h0, .inr (7, [.ref a_1, .ref a_3, .null, .null, .null, .null, .null, .int 0])), (a_1, .inl (cA_2, 8, .inl (fun _ => 0))), (a_3, .inl (cA_4, 8, .inl (fun _ => 0)))] H := hP
  have hD : va_D A [(h0, .inr (7, [.ref a_1, .ref a_3, .null, .null, .null, .null, .null, .int 0])), (a_1, .inl (cA_2, 8, .inl (fun _ => 0))), (a_3, .inl (cA_4, 8, .inl (fun _ => 0)))] := hD
  refine lv_aload_n hx hb dX7_init_20 rfl (lv_at hl 0 rfl) ?_
  refine lv_bipush (v := 8) hx hb dX7_init_21 (by decide) ?_
  refine va_newa (atype := .int) (a0 := (8, .inl (fun _ => 0))) hx hb (hq _ q_81) rfl hK hP hD hS hA (fun _ => rfl) (by decide) (by decide) (Nat.le_of_ble_eq_true rfl) (Nat.le_of_ble_eq_true rfl) (Nat.le_of_ble_eq_true rfl) dX7_init_23 (fun a_5 cA_6 H hK hP hD hS => ?_)
  have hP : va_P (dC, dI) cls [(h0, .inr (7, [.ref a_1, .ref a_3, .null, .null, .null, .null, .null, .int 0])), (a_1, .inl (cA_2, 8, .inl (fun _ => 0))), (a_3, .inl (cA_4, 8, .inl (fun _ => 0))), (a_5, .inl (cA_6, 8, .inl (fun _ => 0)))] H := hP
  have hD : va_D A [(h0, .inr (7, [.ref a_1, .ref a_3, .null, .null, .null, .null, .null, .int 0])), (a_1, .inl (cA_2, 8, .inl (fun _ => 0))), (a_3, .inl (cA_4, 8, .inl (fun _ => 0))), (a_5, .inl (cA_6, 8, .inl (fun _ => 0)))] := hD
  have hK : va_K (dC, dI) cls [(cA_2, .char), (cA_4, .char), (cA_6, .int)] s := hK
  refine W.widen (k := 3) (n := 24) (Nat.le_of_ble_eq_true rfl) (Nat.le_of_ble_eq_true rfl) ?_
  refine va_putF (D := (dC, dI)) (ci := 7) (v := .ref a_5) (ty := (.array .int)) (C := RX7) (T := TX7) (N := 8) hx hb hq i_X7 tyX7 tyX7_ok nmX7 hown hK hP hD hS 0 rfl rfl 2 (by decide) (hq _ q_55) (fun _ h9 => h9) rfl hin rfl (by decide +kernel) rfl rfl (Nat.le_of_ble_eq_true rfl) dX7_init_25 (fun H locs hP hD hS => ?_)
  have hP : va_P (dC, dI) cls [(h0, .inr (7, [.ref a_1, .ref a_3, .ref a_5, .null, .null, .null, .null, .int 0])), (a_1, .inl (cA_2, 8, .inl (fun _ => 0))), (a_3, .inl (cA_4, 8, .inl (fun _ => 0))), (a_5, .inl (cA_6, 8, .inl (fun _ => 0)))] H := hP
  have hD : va_D A [(h0, .inr (7, [.ref a_1, .ref a_3, .ref a_5, .null, .null, .null, .null, .int 0])), (a_1, .inl (cA_2, 8, .inl (fun _ => 0))), (a_3, .inl (cA_4, 8, .inl (fun _ => 0))), (a_5, .inl (cA_6, 8, .inl (fun _ => 0)))] := hD
  refine lv_aload_n hx hb dX7_init_28 rfl (lv_at hl 0 rfl) ?_
  refine lv_bipush (v := 8) hx hb dX7_init_29 (by decide) ?_
  refine va_newa (atype := .boolean) (a0 := (8, .inl (fun _ => 0))) hx hb (hq _ q_82) rfl hK hP hD hS hA (fun _ => rfl) (by decide) (by decide) (Nat.le_of_ble_eq_true rfl) (Nat.le_of_ble_eq_true rfl) (Nat.le_of_ble_eq_true rfl) dX7_init_31 (fun a_7 cA_8 H hK hP hD hS => ?_)
  have hP : va_P (dC, dI) cls [(h0, .inr (7, [.ref a_1, .ref a_3, .ref a_5, .null, .null, .null, .null, .int 0])), (a_1, .inl (cA_2, 8, .inl (fun _ => 0))), (a_3, .inl (cA_4, 8, .inl (fun _ => 0))), (a_5, .inl (cA_6, 8, .inl (fun _ => 0))), (a_7, .inl (cA_8, 8, .inl (fun _ => 0)))] H := hP
  have hD : va_D A [(h0, .inr (7, [.ref a_1, .ref a_3, .ref a_5, .null, .null, .null, .null, .int 0])), (a_1, .inl (cA_2, 8, .inl (fun _ => 0))), (a_3, .inl (cA_4, 8, .inl (fun _ => 0))), (a_5, .inl (cA_6, 8, .inl (fun _ => 0))), (a_7, .inl (cA_8, 8, .inl (fun _ => 0)))] := hD
  have hK : va_K (dC, dI) cls [(cA_2, .char), (cA_4, .char), (cA_6, .int), (cA_8, .boolean)] s := hK
  refine W.widen (k := 4) (n := 32) (Nat.le_of_ble_eq_true rfl) (Nat.le_of_ble_eq_true rfl) ?_
  refine va_putF (D := (dC, dI)) (ci := 7) (v := .ref a_7) (ty := (.array .boolean)) (C := RX7) (T := TX7) (N := 8) hx hb hq i_X7 tyX7 tyX7_ok nmX7 hown hK hP hD hS 0 rfl rfl 3 (by decide) (hq _ q_56) (fun _ h9 => h9) rfl hin rfl (by decide +kernel) rfl rfl (Nat.le_of_ble_eq_true rfl) dX7_init_33 (fun H locs hP hD hS => ?_)
  have hP : va_P (dC, dI) cls [(h0, .inr (7, [.ref a_1, .ref a_3, .ref a_5, .ref a_7, .null, .null, .null, .int 0])), (a_1, .inl (cA_2, 8, .inl (fun _ => 0))), (a_3, .inl (cA_4, 8, .inl (fun _ => 0))), (a_5, .inl (cA_6, 8, .inl (fun _ => 0))), (a_7, .inl (cA_8, 8, .inl (fun _ => 0)))] H := hP
  have hD : va_D A [(h0, .inr (7, [.ref a_1, .ref a_3, .ref a_5, .ref a_7, .null, .null, .null, .int 0])), (a_1, .inl (cA_2, 8, .inl (fun _ => 0))), (a_3, .inl (cA_4, 8, .inl (fun _ => 0))), (a_5, .inl (cA_6, 8, .inl (fun _ => 0))), (a_7, .inl (cA_8, 8, .inl (fun _ => 0)))] := hD
  refine lv_aload_n hx hb dX7_init_36 rfl (lv_at hl 0 rfl) ?_
  refine lv_bipush (v := 8) hx hb dX7_init_37 (by decide) ?_
  refine va_newa (atype := .boolean) (a0 := (8, .inl (fun _ => 0))) hx hb (hq _ q_82) rfl hK hP hD hS hA (fun _ => rfl) (by decide) (by decide) (Nat.le_of_ble_eq_true rfl) (Nat.le_of_ble_eq_true rfl) (Nat.le_of_ble_eq_true rfl) dX7_init_39 (fun a_9 cA_10 H hK hP hD hS => ?_)
  have hP : va_P (dC, dI) cls [(h0, .inr (7, [.ref a_1, .ref a_3, .ref a_5, .ref a_7, .null, .null, .null, .int 0])), (a_1, .inl (cA_2, 8, .inl (fun _ => 0))), (a_3, .inl (cA_4, 8, .inl (fun _ => 0))), (a_5, .inl (cA_6, 8, .inl (fun _ => 0))), (a_7, .inl (cA_8, 8, .inl (fun _ => 0))), (a_9, .inl (cA_10, 8, .inl (fun _ => 0)))] H := hP
  have hD : va_D A [(h0, .inr (7, [.ref a_1, .ref a_3, .ref a_5, .ref a_7, .null, .null, .null, .int 0])), (a_1, .inl (cA_2, 8, .inl (fun _ => 0))), (a_3, .inl (cA_4, 8, .inl (fun _ => 0))), (a_5, .inl (cA_6, 8, .inl (fun _ => 0))), (a_7, .inl (cA_8, 8, .inl (fun _ => 0))), (a_9, .inl (cA_10, 8, .inl (fun _ => 0)))] := hD
  have hK : va_K (dC, dI) cls [(cA_2, .char), (cA_4, .char), (cA_6, .int), (cA_8, .boolean), (cA_10, .boolean)] s := hK
  refine W.widen (k := 5) (n := 40) (Nat.le_of_ble_eq_true rfl) (Nat.le_of_ble_eq_true rfl) ?_
  refine va_putF (D := (dC, dI)) (ci := 7) (v := .ref a_9) (ty := (.array .boolean)) (C := RX7) (T := TX7) (N := 8) hx hb hq i_X7 tyX7 tyX7_ok nmX7 hown hK hP hD hS 0 rfl rfl 4 (by decide) (hq _ q_57) (fun _ h9 => h9) rfl hin rfl (by decide +kernel) rfl rfl (Nat.le_of_ble_eq_true rfl) dX7_init_41 (fun H locs hP hD hS => ?_)
  have hP : va_P (dC, dI) cls [(h0, .inr (7, [.ref a_1, .ref a_3, .ref a_5, .ref a_7, .ref a_9, .null, .null, .int 0])), (a_1, .inl (cA_2, 8, .inl (fun _ => 0))), (a_3, .inl (cA_4, 8, .inl (fun _ => 0))), (a_5, .inl (cA_6, 8, .inl (fun _ => 0))), (a_7, .inl (cA_8, 8, .inl (fun _ => 0))), (a_9, .inl (cA_10, 8, .inl (fun _ => 0)))] H := hP
  have hD : va_D A [(h0, .inr (7, [.ref a_1, .ref a_3, .ref a_5, .ref a_7, .ref a_9, .null, .null, .int 0])), (a_1, .inl (cA_2, 8, .inl (fun _ => 0))), (a_3, .inl (cA_4, 8, .inl (fun _ => 0))), (a_5, .inl (cA_6, 8, .inl (fun _ => 0))), (a_7, .inl (cA_8, 8, .inl (fun _ => 0))), (a_9, .inl (cA_10, 8, .inl (fun _ => 0)))] := hD
  refine lv_aload_n hx hb dX7_init_44 rfl (lv_at hl 0 rfl) ?_
  refine lv_bipush (v := 8) hx hb dX7_init_45 (by decide) ?_
  refine va_newa (atype := .boolean) (a0 := (8, .inl (fun _ => 0))) hx hb (hq _ q_82) rfl hK hP hD hS hA (fun _ => rfl) (by decide) (by decide) (Nat.le_of_ble_eq_true rfl) (Nat.le_of_ble_eq_true rfl) (Nat.le_of_ble_eq_true rfl) dX7_init_47 (fun a_11 cA_12 H hK hP hD hS => ?_)
  have hP : va_P (dC, dI) cls [(h0, .inr (7, [.ref a_1, .ref a_3, .ref a_5, .ref a_7, .ref a_9, .null, .null, .int 0])), (a_1, .inl (cA_2, 8, .inl (fun _ => 0))), (a_3, .inl (cA_4, 8, .inl (fun _ => 0))), (a_5, .inl (cA_6, 8, .inl (fun _ => 0))), (a_7, .inl (cA_8, 8, .inl (fun _ => 0))), (a_9, .inl (cA_10, 8, .inl (fun _ => 0))), (a_11, .inl (cA_12, 8, .inl (fun _ => 0)))] H := hP
  have hD : va_D A [(h0, .inr (7, [.ref a_1, .ref a_3, .ref a_5, .ref a_7, .ref a_9, .null, .null, .int 0])), (a_1, .inl (cA_2, 8, .inl (fun _ => 0))), (a_3, .inl (cA_4, 8, .inl (fun _ => 0))), (a_5, .inl (cA_6, 8, .inl (fun _ => 0))), (a_7, .inl (cA_8, 8, .inl (fun _ => 0))), (a_9, .inl (cA_10, 8, .inl (fun _ => 0))), (a_11, .inl (cA_12, 8, .inl (fun _ => 0)))] := hD
  have hK : va_K (dC, dI) cls [(cA_2, .char), (cA_4, .char), (cA_6, .int), (cA_8, .boolean), (cA_10, .boolean), (cA_12, .boolean)] s := hK
  refine W.widen (k := 6) (n := 48) (Nat.le_of_ble_eq_true rfl) (Nat.le_of_ble_eq_true rfl) ?_
  refine va_putF (D := (dC, dI)) (ci := 7) (v := .ref a_11) (ty := (.array .boolean)) (C := RX7) (T := TX7) (N := 8) hx hb hq i_X7 tyX7 tyX7_ok nmX7 hown hK hP hD hS 0 rfl rfl 5 (by decide) (hq _ q_58) (fun _ h9 => h9) rfl hin rfl (by decide +kernel) rfl rfl (Nat.le_of_ble_eq_true rfl) dX7_init_49 (fun H locs hP hD hS => ?_)
  have hP : va_P (dC, dI) cls [(h0, .inr (7, [.ref a_1, .ref a_3, .ref a_5, .ref a_7, .ref a_9, .ref a_11, .null, .int 0])), (a_1, .inl (cA_2, 8, .inl (fun _ => 0))), (a_3, .inl (cA_4, 8, .inl (fun _ => 0))), (a_5, .inl (cA_6, 8, .inl (fun _ => 0))), (a_7, .inl (cA_8, 8, .inl (fun _ => 0))), (a_9, .inl (cA_10, 8, .inl (fun _ => 0))), (a_11, .inl (cA_12, 8, .inl (fun _ => 0)))] H := hP
  have hD : va_D A [(h0, .inr (7, [.ref a_1, .ref a_3, .ref a_5, .ref a_7, .ref a_9, .ref a_11, .null, .int 0])), (a_1, .inl (cA_2, 8, .inl (fun _ => 0))), (a_3, .inl (cA_4, 8, .inl (fun _ => 0))), (a_5, .inl (cA_6, 8, .inl (fun _ => 0))), (a_7, .inl (cA_8, 8, .inl (fun _ => 0))), (a_9, .inl (cA_10, 8, .inl (fun _ => 0))), (a_11, .inl (cA_12, 8, .inl (fun _ => 0)))] := hD
  refine lv_aload_n hx hb dX7_init_52 rfl (lv_at hl 0 rfl) ?_
  refine lv_bipush (v := 8) hx hb dX7_init_53 (by decide) ?_
  refine va_newa (atype := .int) (a0 := (8, .inl (fun _ => 0))) hx hb (hq _ q_81) rfl hK hP hD hS hA (fun _ => rfl) (by decide) (by decide) (Nat.le_of_ble_eq_true rfl) (Nat.le_of_ble_eq_true rfl) (Nat.le_of_ble_eq_true rfl) dX7_init_55 (fun a_13 cA_14 H hK hP hD hS => ?_)
  have hP : va_P (dC, dI) cls [(h0, .inr (7, [.ref a_1, .ref a_3, .ref a_5, .ref a_7, .ref a_9, .ref a_11, .null, .int 0])), (a_1, .inl (cA_2, 8, .inl (fun _ => 0))), (a_3, .inl (cA_4, 8, .inl (fun _ => 0))), (a_5, .inl (cA_6, 8, .inl (fun _ => 0))), (a_7, .inl (cA_8, 8, .inl (fun _ => 0))), (a_9, .inl (cA_10, 8, .inl (fun _ => 0))), (a_11, .inl (cA_12, 8, .inl (fun _ => 0))), (a_13, .inl (cA_14, 8, .inl (fun _ => 0)))] H := hP
  have hD : va_D A [(h0, .inr (7, [.ref a_1, .ref a_3, .ref a_5, .ref a_7, .ref a_9, .ref a_11, .null, .int 0])), (a_1, .inl (cA_2, 8, .inl (fun _ => 0))), (a_3, .inl (cA_4, 8, .inl (fun _ => 0))), (a_5, .inl (cA_6, 8, .inl (fun _ => 0))), (a_7, .inl (cA_8, 8, .inl (fun _ => 0))), (a_9, .inl (cA_10, 8, .inl (fun _ => 0))), (a_11, .inl (cA_12, 8, .inl (fun _ => 0))), (a_13, .inl (cA_14, 8, .inl (fun _ => 0)))] := hD
  have hK : va_K (dC, dI) cls [(cA_2, .char), (cA_4, .char), (cA_6, .int), (cA_8, .boolean), (cA_10, .boolean), (cA_12, .boolean), (cA_14, .int)] s := hK
  refine W.widen (k := 7) (n := 56) (Nat.le_of_ble_eq_true rfl) (Nat.le_of_ble_eq_true rfl) ?_
  refine va_putF (D := (dC, dI)) (ci := 7) (v := .ref a_13) (ty := (.array .int)) (C := RX7) (T := TX7) (N := 8) hx hb hq i_X7 tyX7 tyX7_ok nmX7 hown hK hP hD hS 0 rfl rfl 6 (by decide) (hq _ q_59) (fun _ h9 => h9) rfl hin rfl (by decide +kernel) rfl rfl (Nat.le_of_ble_eq_true rfl) dX7_init_57 (fun H locs hP hD hS => ?_)
  have hP : va_P (dC, dI) cls [(h0, .inr (7, [.ref a_1, .ref a_3, .ref a_5, .ref a_7, .ref a_9, .ref a_11, .ref a_13, .int 0])), (a_1, .inl (cA_2, 8, .inl (fun _ => 0))), (a_3, .inl (cA_4, 8, .inl (fun _ => 0))), (a_5, .inl (cA_6, 8, .inl (fun _ => 0))), (a_7, .inl (cA_8, 8, .inl (fun _ => 0))), (a_9, .inl (cA_10, 8, .inl (fun _ => 0))), (a_11, .inl (cA_12, 8, .inl (fun _ => 0))), (a_13, .inl (cA_14, 8, .inl (fun _ => 0)))] H := hP
  have hD : va_D A [(h0, .inr (7, [.ref a_1, .ref a_3, .ref a_5, .ref a_7, .ref a_9, .ref a_11, .ref a_13, .int 0])), (a_1, .inl (cA_2, 8, .inl (fun _ => 0))), (a_3, .inl (cA_4, 8, .inl (fun _ => 0))), (a_5, .inl (cA_6, 8, .inl (fun _ => 0))), (a_7, .inl (cA_8, 8, .inl (fun _ => 0))), (a_9, .inl (cA_10, 8, .inl (fun _ => 0))), (a_11, .inl (cA_12, 8, .inl (fun _ => 0))), (a_13, .inl (cA_14, 8, .inl (fun _ => 0)))] := hD
  refine W.widen (k := 7) (n := 56) (Nat.le_of_ble_eq_true rfl) (Nat.le_of_ble_eq_true rfl) ?_
  have hP9 := hP.sub (ws' := [(h0, .inr (7, [.ref a_1, .ref a_3, .ref a_5, .ref a_7, .ref a_9, .ref a_11, .ref a_13, .int 0])), (a_1, .inl (cA_2, 8, .inl (fun _ => 0))), (a_3, .inl (cA_4, 8, .inl (fun _ => 0))), (a_5, .inl (cA_6, 8, .inl (fun _ => 0))), (a_7, .inl (cA_8, 8, .inl (fun _ => 0))), (a_9, .inl (cA_10, 8, .inl (fun _ => 0))), (a_11, .inl (cA_12, 8, .inl (fun _ => 0))), (a_13, .inl (cA_14, 8, .inl (fun _ => 0)))]) [0, 1, 2, 3, 4, 5, 6, 7] rfl
  have hD9 := hD.sub (ws' := [(h0, .inr (7, [.ref a_1, .ref a_3, .ref a_5, .ref a_7, .ref a_9, .ref a_11, .ref a_13, .int 0])), (a_1, .inl (cA_2, 8, .inl (fun _ => 0))), (a_3, .inl (cA_4, 8, .inl (fun _ => 0))), (a_5, .inl (cA_6, 8, .inl (fun _ => 0))), (a_7, .inl (cA_8, 8, .inl (fun _ => 0))), (a_9, .inl (cA_10, 8, .inl (fun _ => 0))), (a_11, .inl (cA_12, 8, .inl (fun _ => 0))), (a_13, .inl (cA_14, 8, .inl (fun _ => 0)))]) [0, 1, 2, 3, 4, 5, 6, 7] (by decide) rfl
  have hK9 := hK.sub (tys' := [(cA_2, .char), (cA_4, .char), (cA_6, .int), (cA_8, .boolean), (cA_10, .boolean), (cA_12, .boolean), (cA_14, .int)]) [0, 1, 2, 3, 4, 5, 6] rfl
  exact W.vret hx hb hr (fun t ht hW => ⟨⟨(), rfl, trivial, ⟨a_1, a_3, a_5, a_7, a_9, a_11, a_13, cA_2, cA_4, cA_6, cA_8, cA_10, cA_12, cA_14, by rw [ht]; exact hP9, va_K.moved hW.alike hK9, hD9⟩⟩, hS.F ht⟩) hS.2.2 dX7_init_60
end
section
abbrev cX3_init : ByteArray := prog_5_method_1_code
def yX3_init : MethodName := ⟨RX3, "<init>", "(LNightfallVillage$Roles;LNightfallVillage$Deal;)V"⟩
theorem dX3_init_0 : decode cX3_init 0 = .ok (.aload_n 0, 1) := by decide +kernel
theorem dX3_init_1 : decode cX3_init 1 = .ok (.invokespecial 3, 3) := by decide +kernel
theorem q_122 : (Cond.methodLink "NightfallVillage$Folk" 3 objectInit) ∈ tw := tw_in (i := 122) (by decide +kernel) (by decide +kernel)
theorem dX3_init_4 : decode cX3_init 4 = .ok (.aload_n 0, 1) := by decide +kernel
theorem dX3_init_5 : decode cX3_init 5 = .ok (.bipush 7, 2) := by decide +kernel
theorem dX3_init_7 : decode cX3_init 7 = .ok (.newarray .int, 2) := by decide +kernel
theorem dX3_init_9 : decode cX3_init 9 = .ok (.putfield 9, 3) := by decide +kernel
theorem q_125 : (Cond.fieldLink "NightfallVillage$Folk" 9 "NightfallVillage$Folk" "held" "[I") ∈ tw := tw_in (i := 125) (by decide +kernel) (by decide +kernel)
theorem dX3_init_12 : decode cX3_init 12 = .ok (.aload_n 0, 1) := by decide +kernel
theorem dX3_init_13 : decode cX3_init 13 = .ok (.bipush 7, 2) := by decide +kernel
theorem dX3_init_15 : decode cX3_init 15 = .ok (.newarray .boolean, 2) := by decide +kernel
theorem dX3_init_17 : decode cX3_init 17 = .ok (.putfield 15, 3) := by decide +kernel
theorem q_126 : (Cond.fieldLink "NightfallVillage$Folk" 15 "NightfallVillage$Folk" "usedUp" "[Z") ∈ tw := tw_in (i := 126) (by decide +kernel) (by decide +kernel)
theorem dX3_init_20 : decode cX3_init 20 = .ok (.aload_n 0, 1) := by decide +kernel
theorem dX3_init_21 : decode cX3_init 21 = .ok (.bipush 7, 2) := by decide +kernel
theorem dX3_init_23 : decode cX3_init 23 = .ok (.newarray .char, 2) := by decide +kernel
theorem dX3_init_25 : decode cX3_init 25 = .ok (.putfield 19, 3) := by decide +kernel
theorem q_127 : (Cond.fieldLink "NightfallVillage$Folk" 19 "NightfallVillage$Folk" "causes" "[C") ∈ tw := tw_in (i := 127) (by decide +kernel) (by decide +kernel)
theorem dX3_init_28 : decode cX3_init 28 = .ok (.aload_n 0, 1) := by decide +kernel
theorem dX3_init_29 : decode cX3_init 29 = .ok (.bipush 7, 2) := by decide +kernel
theorem dX3_init_31 : decode cX3_init 31 = .ok (.newarray .int, 2) := by decide +kernel
theorem dX3_init_33 : decode cX3_init 33 = .ok (.putfield 23, 3) := by decide +kernel
theorem q_128 : (Cond.fieldLink "NightfallVillage$Folk" 23 "NightfallVillage$Folk" "marks" "[I") ∈ tw := tw_in (i := 128) (by decide +kernel) (by decide +kernel)
theorem dX3_init_36 : decode cX3_init 36 = .ok (.aload_n 0, 1) := by decide +kernel
theorem dX3_init_37 : decode cX3_init 37 = .ok (.bipush 7, 2) := by decide +kernel
theorem dX3_init_39 : decode cX3_init 39 = .ok (.newarray .int, 2) := by decide +kernel
theorem dX3_init_41 : decode cX3_init 41 = .ok (.putfield 26, 3) := by decide +kernel
theorem q_129 : (Cond.fieldLink "NightfallVillage$Folk" 26 "NightfallVillage$Folk" "dying" "[I") ∈ tw := tw_in (i := 129) (by decide +kernel) (by decide +kernel)
theorem dX3_init_44 : decode cX3_init 44 = .ok (.aload_n 0, 1) := by decide +kernel
theorem dX3_init_45 : decode cX3_init 45 = .ok (.aload_n 1, 1) := by decide +kernel
theorem dX3_init_46 : decode cX3_init 46 = .ok (.putfield 29, 3) := by decide +kernel
theorem q_123 : (Cond.fieldLink "NightfallVillage$Folk" 29 "NightfallVillage$Folk" "roles" "LNightfallVillage$Roles;") ∈ tw := tw_in (i := 123) (by decide +kernel) (by decide +kernel)
theorem dX3_init_49 : decode cX3_init 49 = .ok (.aload_n 0, 1) := by decide +kernel
theorem dX3_init_50 : decode cX3_init 50 = .ok (.aload_n 2, 1) := by decide +kernel
theorem dX3_init_51 : decode cX3_init 51 = .ok (.putfield 33, 3) := by decide +kernel
theorem q_124 : (Cond.fieldLink "NightfallVillage$Folk" 33 "NightfallVillage$Folk" "deal" "LNightfallVillage$Deal;") ∈ tw := tw_in (i := 124) (by decide +kernel) (by decide +kernel)
theorem dX3_init_54 : decode cX3_init 54 = .ok (.return_, 1) := by decide +kernel
set_option maxHeartbeats 4000000 in
set_option maxRecDepth 100000 in
theorem c_Folk_init (l : Launch) (hst : l.stackTraces = false) (tE : Nat) (adK adV : Nat → Nat) (dC : Nat → ClassId) (dI : Nat → Nat → Nat) (h0 : Nat) (r0 : Nat) (d0 : Nat) (sz : Nat) : Met l yX3_init (Cond.code yX3_init cX3_init 3 none :: tw) ({ frames := 1, cells := 5, slots := 35, locals := 12 }) (va_Pc [.ref h0, .ref r0, .ref d0] (pre tE adK adV (dC, dI) [(h0, .inr (3, [.null, .null, .null, .null, .null, .null, .null, .int 0, .int 0]))] [] sz)) (va_Qv (fun (_ : Unit) => True) (fun (_ : Unit) (t : State) => ∃ (q1 : Nat) (q2 : Nat) (q3 : Nat) (q4 : Nat) (q5 : Nat), va_P (dC, dI) cls [(h0, .inr (3, [.ref r0, .ref d0, .ref q1, .ref q2, .ref q3, .ref q4, .ref q5, .int 0, .int 0]))] t.heap ∧ va_K (dC, dI) cls [] t ∧ va_D (va_A [(h0, .inr (3, [.null, .null, .null, .null, .null, .null, .null, .int 0, .int 0]))] sz) [(h0, .inr (3, [.ref r0, .ref d0, .ref q1, .ref q2, .ref q3, .ref q4, .ref q5, .int 0, .int 0]))]) (va_A [(h0, .inr (3, [.null, .null, .null, .null, .null, .null, .null, .int 0, .int 0]))] sz)) 5 35 (va_A [(h0, .inr (3, [.null, .null, .null, .null, .null, .null, .null, .int 0, .int 0]))] sz) := by
  refine Met.ofW (cc := cX3_init) (maxL := 3) (ret := none) (by decide) rfl ?_
  intro p e s m args below meth c s₁ B hml hv
  obtain ⟨rfl, hsz, hP, hK, hD0, ham⟩ := hv
  have hx := B.exec
  have hb := B.bytes
  have hr := B.returns
  have hts := atoms_spec B.pre
  have hq : ∀ w ∈ tw, w.before _ s = true := fun w h => hts w (List.mem_cons_of_mem _ h)
  have hown : s.vm.findClass RX3 = some m.cls := findClass_of_methodNamed B.named
  have hlocks := B.notSynchronized
  have hin : meth.name = "<init>" := (name_of_methodNamed B.named B.method).1
  subst hsz
  have hD := hD0.self (sz := s.heap.size)
  generalize hAe : va_A [(h0, .inr (3, [.null, .null, .null, .null, .null, .null, .null, .int 0, .int 0]))] s.heap.size = A at hD ham ⊢
  have hA : ∀ q : Nat, s.heap.size ≤ q → A q := fun q h => by rw [← hAe]; exact Or.inr h
  have hS : va_S A s.heap s.heap [] := va_S.rf
  have hP : va_P (dC, dI) cls [(h0, .inr (3, [.null, .null, .null, .null, .null, .null, .null, .int 0, .int 0]))] s.heap := hP
  have hl := lv_entry ([.ref h0, .ref r0, .ref d0]) (n := 3) (Nat.le_of_ble_eq_true rfl)
  rw [lg_entry_eq]
  generalize (lg_sl ([.ref h0, .ref r0, .ref d0]) ++ List.replicate (3 - (lg_sl ([.ref h0, .ref r0, .ref d0])).length) Slot.unset).toArray = ls at hl ⊢
  have hl : lv_has ls 3 [(0, .ref h0), (1, .ref r0), (2, .ref d0)] := hl
  refine lv_aload_n hx hb dX3_init_0 rfl (lv_at hl 0 rfl) ?_
  refine W.objInit hx hb hown (hq _ q_122) (hq _ q_45) (hq _ q_46) rfl (by rw [hml]; exact hl.1) rfl dX3_init_1 (Nat.le_of_ble_eq_true rfl) (Nat.le_of_ble_eq_true rfl) ?_
  refine W.eq (g2 := F0 m 4 ls []) rfl ?_
  refine lv_aload_n hx hb dX3_init_4 rfl (lv_at hl 0 rfl) ?_
  refine lv_bipush (v := 7) hx hb dX3_init_5 (by decide) ?_
  refine va_newa (atype := .int) (a0 := (7, .inl (fun _ => 0))) hx hb (hq _ q_81) rfl hK hP hD hS hA (fun _ => rfl) (by decide) (by decide) (Nat.le_of_ble_eq_true rfl) (Nat.le_of_ble_eq_true rfl) (Nat.le_of_ble_eq_true rfl) dX3_init_7 (fun a_1 cA_2 H hK hP hD hS => ?_)
  have hP : va_P (dC, dI) cls [(h0, .inr (3, [.null, .null, .null, .null, .null, .null, .null, .int 0, .int 0])), (a_1, .inl (cA_2, 7, .inl (fun _ => 0)))] H := hP
  have hD : va_D A [(h0, .inr (3, [.null, .null, .null, .null, .null, .null, .null, .int 0, .int 0])), (a_1, .inl (cA_2, 7, .inl (fun _ => 0)))] := hD
  have hK : va_K (dC, dI) cls [(cA_2, .int)] s := hK
  refine W.widen (k := 1) (n := 7) (Nat.le_of_ble_eq_true rfl) (Nat.le_of_ble_eq_true rfl) ?_
  refine va_putF (D := (dC, dI)) (ci := 3) (v := .ref a_1) (ty := (.array .int)) (C := RX3) (T := TX3) (N := 9) hx hb hq i_X3 tyX3 tyX3_ok nmX3 hown hK hP hD hS 0 rfl rfl 2 (by decide) (hq _ q_125) (fun _ h9 => h9) rfl hin rfl (by decide +kernel) rfl rfl (Nat.le_of_ble_eq_true rfl) dX3_init_9 (fun H locs hP hD hS => ?_)
  have hP : va_P (dC, dI) cls [(h0, .inr (3, [.null, .null, .ref a_1, .null, .null, .null, .null, .int 0, .int 0])), (a_1, .inl (cA_2, 7, .inl (fun _ => 0)))] H := hP
  have hD : va_D A [(h0, .inr (3, [.null, .null, .ref a_1, .null, .null, .null, .null, .int 0, .int 0])), (a_1, .inl (cA_2, 7, .inl (fun _ => 0)))] := hD
  refine lv_aload_n hx hb dX3_init_12 rfl (lv_at hl 0 rfl) ?_
  refine lv_bipush (v := 7) hx hb dX3_init_13 (by decide) ?_
  refine va_newa (atype := .boolean) (a0 := (7, .inl (fun _ => 0))) hx hb (hq _ q_82) rfl hK hP hD hS hA (fun _ => rfl) (by decide) (by decide) (Nat.le_of_ble_eq_true rfl) (Nat.le_of_ble_eq_true rfl) (Nat.le_of_ble_eq_true rfl) dX3_init_15 (fun a_3 cA_4 H hK hP hD hS => ?_)
  have hP : va_P (dC, dI) cls [(h0, .inr (3, [.null, .null, .ref a_1, .null, .null, .null, .null, .int 0, .int 0])), (a_1, .inl (cA_2, 7, .inl (fun _ => 0))), (a_3, .inl (cA_4, 7, .inl (fun _ => 0)))] H := hP
  have hD : va_D A [(h0, .inr (3, [.null, .null, .ref a_1, .null, .null, .null, .null, .int 0, .int 0])), (a_1, .inl (cA_2, 7, .inl (fun _ => 0))), (a_3, .inl (cA_4, 7, .inl (fun _ => 0)))] := hD
  have hK : va_K (dC, dI) cls [(cA_2, .int), (cA_4, .boolean)] s := hK
  refine W.widen (k := 2) (n := 14) (Nat.le_of_ble_eq_true rfl) (Nat.le_of_ble_eq_true rfl) ?_
  refine va_putF (D := (dC, dI)) (ci := 3) (v := .ref a_3) (ty := (.array .boolean)) (C := RX3) (T := TX3) (N := 9) hx hb hq i_X3 tyX3 tyX3_ok nmX3 hown hK hP hD hS 0 rfl rfl 3 (by decide) (hq _ q_126) (fun _ h9 => h9) rfl hin rfl (by decide +kernel) rfl rfl (Nat.le_of_ble_eq_true rfl) dX3_init_17 (fun H locs hP hD hS => ?_)
  have hP : va_P (dC, dI) cls [(h0, .inr (3, [.null, .null, .ref a_1, .ref a_3, .null, .null, .null, .int 0, .int 0])), (a_1, .inl (cA_2, 7, .inl (fun _ => 0))), (a_3, .inl (cA_4, 7, .inl (fun _ => 0)))] H := hP
  have hD : va_D A [(h0, .inr (3, [.null, .null, .ref a_1, .ref a_3, .null, .null, .null, .int 0, .int 0])), (a_1, .inl (cA_2, 7, .inl (fun _ => 0))), (a_3, .inl (cA_4, 7, .inl (fun _ => 0)))] := hD
  refine lv_aload_n hx hb dX3_init_20 rfl (lv_at hl 0 rfl) ?_
  refine lv_bipush (v := 7) hx hb dX3_init_21 (by decide) ?_
  refine va_newa (atype := .char) (a0 := (7, .inl (fun _ => 0))) hx hb (hq _ q_80) rfl hK hP hD hS hA (fun _ => rfl) (by decide) (by decide) (Nat.le_of_ble_eq_true rfl) (Nat.le_of_ble_eq_true rfl) (Nat.le_of_ble_eq_true rfl) dX3_init_23 (fun a_5 cA_6 H hK hP hD hS => ?_)
  have hP : va_P (dC, dI) cls [(h0, .inr (3, [.null, .null, .ref a_1, .ref a_3, .null, .null, .null, .int 0, .int 0])), (a_1, .inl (cA_2, 7, .inl (fun _ => 0))), (a_3, .inl (cA_4, 7, .inl (fun _ => 0))), (a_5, .inl (cA_6, 7, .inl (fun _ => 0)))] H := hP
  have hD : va_D A [(h0, .inr (3, [.null, .null, .ref a_1, .ref a_3, .null, .null, .null, .int 0, .int 0])), (a_1, .inl (cA_2, 7, .inl (fun _ => 0))), (a_3, .inl (cA_4, 7, .inl (fun _ => 0))), (a_5, .inl (cA_6, 7, .inl (fun _ => 0)))] := hD
  have hK : va_K (dC, dI) cls [(cA_2, .int), (cA_4, .boolean), (cA_6, .char)] s := hK
  refine W.widen (k := 3) (n := 21) (Nat.le_of_ble_eq_true rfl) (Nat.le_of_ble_eq_true rfl) ?_
  refine va_putF (D := (dC, dI)) (ci := 3) (v := .ref a_5) (ty := (.array .char)) (C := RX3) (T := TX3) (N := 9) hx hb hq i_X3 tyX3 tyX3_ok nmX3 hown hK hP hD hS 0 rfl rfl 4 (by decide) (hq _ q_127) (fun _ h9 => h9) rfl hin rfl (by decide +kernel) rfl rfl (Nat.le_of_ble_eq_true rfl) dX3_init_25 (fun H locs hP hD hS => ?_)
  have hP : va_P (dC, dI) cls [(h0, .inr (3, [.null, .null, .ref a_1, .ref a_3, .ref a_5, .null, .null, .int 0, .int 0])), (a_1, .inl (cA_2, 7, .inl (fun _ => 0))), (a_3, .inl (cA_4, 7, .inl (fun _ => 0))), (a_5, .inl (cA_6, 7, .inl (fun _ => 0)))] H := hP
  have hD : va_D A [(h0, .inr (3, [.null, .null, .ref a_1, .ref a_3, .ref a_5, .null, .null, .int 0, .int 0])), (a_1, .inl (cA_2, 7, .inl (fun _ => 0))), (a_3, .inl (cA_4, 7, .inl (fun _ => 0))), (a_5, .inl (cA_6, 7, .inl (fun _ => 0)))] := hD
  refine lv_aload_n hx hb dX3_init_28 rfl (lv_at hl 0 rfl) ?_
  refine lv_bipush (v := 7) hx hb dX3_init_29 (by decide) ?_
  refine va_newa (atype := .int) (a0 := (7, .inl (fun _ => 0))) hx hb (hq _ q_81) rfl hK hP hD hS hA (fun _ => rfl) (by decide) (by decide) (Nat.le_of_ble_eq_true rfl) (Nat.le_of_ble_eq_true rfl) (Nat.le_of_ble_eq_true rfl) dX3_init_31 (fun a_7 cA_8 H hK hP hD hS => ?_)
  have hP : va_P (dC, dI) cls [(h0, .inr (3, [.null, .null, .ref a_1, .ref a_3, .ref a_5, .null, .null, .int 0, .int 0])), (a_1, .inl (cA_2, 7, .inl (fun _ => 0))), (a_3, .inl (cA_4, 7, .inl (fun _ => 0))), (a_5, .inl (cA_6, 7, .inl (fun _ => 0))), (a_7, .inl (cA_8, 7, .inl (fun _ => 0)))] H := hP
  have hD : va_D A [(h0, .inr (3, [.null, .null, .ref a_1, .ref a_3, .ref a_5, .null, .null, .int 0, .int 0])), (a_1, .inl (cA_2, 7, .inl (fun _ => 0))), (a_3, .inl (cA_4, 7, .inl (fun _ => 0))), (a_5, .inl (cA_6, 7, .inl (fun _ => 0))), (a_7, .inl (cA_8, 7, .inl (fun _ => 0)))] := hD
  have hK : va_K (dC, dI) cls [(cA_2, .int), (cA_4, .boolean), (cA_6, .char), (cA_8, .int)] s := hK
  refine W.widen (k := 4) (n := 28) (Nat.le_of_ble_eq_true rfl) (Nat.le_of_ble_eq_true rfl) ?_
  refine va_putF (D := (dC, dI)) (ci := 3) (v := .ref a_7) (ty := (.array .int)) (C := RX3) (T := TX3) (N := 9) hx hb hq i_X3 tyX3 tyX3_ok nmX3 hown hK hP hD hS 0 rfl rfl 5 (by decide) (hq _ q_128) (fun _ h9 => h9) rfl hin rfl (by decide +kernel) rfl rfl (Nat.le_of_ble_eq_true rfl) dX3_init_33 (fun H locs hP hD hS => ?_)
  have hP : va_P (dC, dI) cls [(h0, .inr (3, [.null, .null, .ref a_1, .ref a_3, .ref a_5, .ref a_7, .null, .int 0, .int 0])), (a_1, .inl (cA_2, 7, .inl (fun _ => 0))), (a_3, .inl (cA_4, 7, .inl (fun _ => 0))), (a_5, .inl (cA_6, 7, .inl (fun _ => 0))), (a_7, .inl (cA_8, 7, .inl (fun _ => 0)))] H := hP
  have hD : va_D A [(h0, .inr (3, [.null, .null, .ref a_1, .ref a_3, .ref a_5, .ref a_7, .null, .int 0, .int 0])), (a_1, .inl (cA_2, 7, .inl (fun _ => 0))), (a_3, .inl (cA_4, 7, .inl (fun _ => 0))), (a_5, .inl (cA_6, 7, .inl (fun _ => 0))), (a_7, .inl (cA_8, 7, .inl (fun _ => 0)))] := hD
  refine lv_aload_n hx hb dX3_init_36 rfl (lv_at hl 0 rfl) ?_
  refine lv_bipush (v := 7) hx hb dX3_init_37 (by decide) ?_
  refine va_newa (atype := .int) (a0 := (7, .inl (fun _ => 0))) hx hb (hq _ q_81) rfl hK hP hD hS hA (fun _ => rfl) (by decide) (by decide) (Nat.le_of_ble_eq_true rfl) (Nat.le_of_ble_eq_true rfl) (Nat.le_of_ble_eq_true rfl) dX3_init_39 (fun a_9 cA_10 H hK hP hD hS => ?_)
  have hP : va_P (dC, dI) cls [(h0, .inr (3, [.null, .null, .ref a_1, .ref a_3, .ref a_5, .ref a_7, .null, .int 0, .int 0])), (a_1, .inl (cA_2, 7, .inl (fun _ => 0))), (a_3, .inl (cA_4, 7, .inl (fun _ => 0))), (a_5, .inl (cA_6, 7, .inl (fun _ => 0))), (a_7, .inl (cA_8, 7, .inl (fun _ => 0))), (a_9, .inl (cA_10, 7, .inl (fun _ => 0)))] H := hP
  have hD : va_D A [(h0, .inr (3, [.null, .null, .ref a_1, .ref a_3, .ref a_5, .ref a_7, .null, .int 0, .int 0])), (a_1, .inl (cA_2, 7, .inl (fun _ => 0))), (a_3, .inl (cA_4, 7, .inl (fun _ => 0))), (a_5, .inl (cA_6, 7, .inl (fun _ => 0))), (a_7, .inl (cA_8, 7, .inl (fun _ => 0))), (a_9, .inl (cA_10, 7, .inl (fun _ => 0)))] := hD
  have hK : va_K (dC, dI) cls [(cA_2, .int), (cA_4, .boolean), (cA_6, .char), (cA_8, .int), (cA_10, .int)] s := hK
  refine W.widen (k := 5) (n := 35) (Nat.le_of_ble_eq_true rfl) (Nat.le_of_ble_eq_true rfl) ?_
  refine va_putF (D := (dC, dI)) (ci := 3) (v := .ref a_9) (ty := (.array .int)) (C := RX3) (T := TX3) (N := 9) hx hb hq i_X3 tyX3 tyX3_ok nmX3 hown hK hP hD hS 0 rfl rfl 6 (by decide) (hq _ q_129) (fun _ h9 => h9) rfl hin rfl (by decide +kernel) rfl rfl (Nat.le_of_ble_eq_true rfl) dX3_init_41 (fun H locs hP hD hS => ?_)
  have hP : va_P (dC, dI) cls [(h0, .inr (3, [.null, .null, .ref a_1, .ref a_3, .ref a_5, .ref a_7, .ref a_9, .int 0, .int 0])), (a_1, .inl (cA_2, 7, .inl (fun _ => 0))), (a_3, .inl (cA_4, 7, .inl (fun _ => 0))), (a_5, .inl (cA_6, 7, .inl (fun _ => 0))), (a_7, .inl (cA_8, 7, .inl (fun _ => 0))), (a_9, .inl (cA_10, 7, .inl (fun _ => 0)))] H := hP
  have hD : va_D A [(h0, .inr (3, [.null, .null, .ref a_1, .ref a_3, .ref a_5, .ref a_7, .ref a_9, .int 0, .int 0])), (a_1, .inl (cA_2, 7, .inl (fun _ => 0))), (a_3, .inl (cA_4, 7, .inl (fun _ => 0))), (a_5, .inl (cA_6, 7, .inl (fun _ => 0))), (a_7, .inl (cA_8, 7, .inl (fun _ => 0))), (a_9, .inl (cA_10, 7, .inl (fun _ => 0)))] := hD
  refine lv_aload_n hx hb dX3_init_44 rfl (lv_at hl 0 rfl) ?_
  refine lv_aload_n hx hb dX3_init_45 rfl (lv_at hl 1 rfl) ?_
  refine va_putF (D := (dC, dI)) (ci := 3) (v := .ref r0) (ty := (.object "NightfallVillage$Roles")) (C := RX3) (T := TX3) (N := 9) hx hb hq i_X3 tyX3 tyX3_ok nmX3 hown hK hP hD hS 0 rfl rfl 0 (by decide) (hq _ q_123) (fun _ h9 => h9) rfl hin rfl (by decide +kernel) rfl rfl (Nat.le_of_ble_eq_true rfl) dX3_init_46 (fun H locs hP hD hS => ?_)
  have hP : va_P (dC, dI) cls [(h0, .inr (3, [.ref r0, .null, .ref a_1, .ref a_3, .ref a_5, .ref a_7, .ref a_9, .int 0, .int 0])), (a_1, .inl (cA_2, 7, .inl (fun _ => 0))), (a_3, .inl (cA_4, 7, .inl (fun _ => 0))), (a_5, .inl (cA_6, 7, .inl (fun _ => 0))), (a_7, .inl (cA_8, 7, .inl (fun _ => 0))), (a_9, .inl (cA_10, 7, .inl (fun _ => 0)))] H := hP
  have hD : va_D A [(h0, .inr (3, [.ref r0, .null, .ref a_1, .ref a_3, .ref a_5, .ref a_7, .ref a_9, .int 0, .int 0])), (a_1, .inl (cA_2, 7, .inl (fun _ => 0))), (a_3, .inl (cA_4, 7, .inl (fun _ => 0))), (a_5, .inl (cA_6, 7, .inl (fun _ => 0))), (a_7, .inl (cA_8, 7, .inl (fun _ => 0))), (a_9, .inl (cA_10, 7, .inl (fun _ => 0)))] := hD
  refine lv_aload_n hx hb dX3_init_49 rfl (lv_at hl 0 rfl) ?_
  refine lv_aload_n hx hb dX3_init_50 rfl (lv_at hl 2 rfl) ?_
  refine va_putF (D := (dC, dI)) (ci := 3) (v := .ref d0) (ty := (.object "NightfallVillage$Deal")) (C := RX3) (T := TX3) (N := 9) hx hb hq i_X3 tyX3 tyX3_ok nmX3 hown hK hP hD hS 0 rfl rfl 1 (by decide) (hq _ q_124) (fun _ h9 => h9) rfl hin rfl (by decide +kernel) rfl rfl (Nat.le_of_ble_eq_true rfl) dX3_init_51 (fun H locs hP hD hS => ?_)
  have hP : va_P (dC, dI) cls [(h0, .inr (3, [.ref r0, .ref d0, .ref a_1, .ref a_3, .ref a_5, .ref a_7, .ref a_9, .int 0, .int 0])), (a_1, .inl (cA_2, 7, .inl (fun _ => 0))), (a_3, .inl (cA_4, 7, .inl (fun _ => 0))), (a_5, .inl (cA_6, 7, .inl (fun _ => 0))), (a_7, .inl (cA_8, 7, .inl (fun _ => 0))), (a_9, .inl (cA_10, 7, .inl (fun _ => 0)))] H := hP
  have hD : va_D A [(h0, .inr (3, [.ref r0, .ref d0, .ref a_1, .ref a_3, .ref a_5, .ref a_7, .ref a_9, .int 0, .int 0])), (a_1, .inl (cA_2, 7, .inl (fun _ => 0))), (a_3, .inl (cA_4, 7, .inl (fun _ => 0))), (a_5, .inl (cA_6, 7, .inl (fun _ => 0))), (a_7, .inl (cA_8, 7, .inl (fun _ => 0))), (a_9, .inl (cA_10, 7, .inl (fun _ => 0)))] := hD
  refine W.widen (k := 5) (n := 35) (Nat.le_of_ble_eq_true rfl) (Nat.le_of_ble_eq_true rfl) ?_
  have hP9 := hP.sub (ws' := [(h0, .inr (3, [.ref r0, .ref d0, .ref a_1, .ref a_3, .ref a_5, .ref a_7, .ref a_9, .int 0, .int 0]))]) [0] rfl
  have hD9 := hD.sub (ws' := [(h0, .inr (3, [.ref r0, .ref d0, .ref a_1, .ref a_3, .ref a_5, .ref a_7, .ref a_9, .int 0, .int 0]))]) [0] (by decide) rfl
  have hK9 := hK.sub (tys' := []) [] rfl
  exact W.vret hx hb hr (fun t ht hW => ⟨⟨(), rfl, trivial, ⟨a_1, a_3, a_5, a_7, a_9, by rw [ht]; exact hP9, va_K.moved hW.alike hK9, hD9⟩⟩, hS.F ht⟩) hS.2.2 dX3_init_54
abbrev cX4_init : ByteArray := prog_6_method_1_code
def yX4_init : MethodName := ⟨RX4, "<init>", "(LNightfallVillage$Roles;LNightfallVillage$Deal;)V"⟩
theorem dX4_init_0 : decode cX4_init 0 = .ok (.aload_n 0, 1) := by decide +kernel
theorem dX4_init_1 : decode cX4_init 1 = .ok (.invokespecial 3, 3) := by decide +kernel
theorem q_116 : (Cond.methodLink "NightfallVillage$Game" 3 objectInit) ∈ tw := tw_in (i := 116) (by decide +kernel) (by decide +kernel)
theorem dX4_init_4 : decode cX4_init 4 = .ok (.aload_n 0, 1) := by decide +kernel
theorem dX4_init_5 : decode cX4_init 5 = .ok (.bipush 45, 2) := by decide +kernel
theorem dX4_init_7 : decode cX4_init 7 = .ok (.putfield 9, 3) := by decide +kernel
theorem q_220 : (Cond.fieldLink "NightfallVillage$Game" 9 "NightfallVillage$Game" "outcome" "C") ∈ tw := tw_in (i := 220) (by decide +kernel) (by decide +kernel)
theorem dX4_init_10 : decode cX4_init 10 = .ok (.aload_n 0, 1) := by decide +kernel
theorem dX4_init_11 : decode cX4_init 11 = .ok (.new 15, 3) := by decide +kernel
theorem q_117 : (Cond.classLink "NightfallVillage$Game" 15 "NightfallVillage$Folk") ∈ tw := tw_in (i := 117) (by decide +kernel) (by decide +kernel)
theorem q_118 : (Cond.instantiable "NightfallVillage$Folk" 9) ∈ tw := tw_in (i := 118) (by decide +kernel) (by decide +kernel)
theorem q_5 : (Cond.initialized "NightfallVillage$Folk") ∈ tw := tw_in (i := 5) (by decide +kernel) (by decide +kernel)
theorem dX4_init_14 : decode cX4_init 14 = .ok (.dup, 1) := by decide +kernel
theorem dX4_init_15 : decode cX4_init 15 = .ok (.aload_n 1, 1) := by decide +kernel
theorem dX4_init_16 : decode cX4_init 16 = .ok (.aload_n 2, 1) := by decide +kernel
theorem dX4_init_17 : decode cX4_init 17 = .ok (.invokespecial 17, 3) := by decide +kernel
theorem q_121 : (Cond.code yX3_init cX3_init 3 none) ∈ tw := tw_in (i := 121) (by decide +kernel) (by decide +kernel)
theorem q_119 : (Cond.methodLink "NightfallVillage$Game" 17 yX3_init) ∈ tw := tw_in (i := 119) (by decide +kernel) (by decide +kernel)
theorem q_120 : (Cond.instanceMethod yX3_init) ∈ tw := tw_in (i := 120) (by decide +kernel) (by decide +kernel)
theorem dX4_init_20 : decode cX4_init 20 = .ok (.putfield 20, 3) := by decide +kernel
theorem q_208 : (Cond.fieldLink "NightfallVillage$Game" 20 "NightfallVillage$Game" "folk" "LNightfallVillage$Folk;") ∈ tw := tw_in (i := 208) (by decide +kernel) (by decide +kernel)
theorem dX4_init_23 : decode cX4_init 23 = .ok (.aload_n 0, 1) := by decide +kernel
theorem dX4_init_24 : decode cX4_init 24 = .ok (.new 24, 3) := by decide +kernel
theorem q_153 : (Cond.classLink "NightfallVillage$Game" 24 "NightfallVillage$Night") ∈ tw := tw_in (i := 153) (by decide +kernel) (by decide +kernel)
theorem q_154 : (Cond.instantiable "NightfallVillage$Night" 11) ∈ tw := tw_in (i := 154) (by decide +kernel) (by decide +kernel)
theorem q_6 : (Cond.initialized "NightfallVillage$Night") ∈ tw := tw_in (i := 6) (by decide +kernel) (by decide +kernel)
theorem dX4_init_27 : decode cX4_init 27 = .ok (.dup, 1) := by decide +kernel
theorem dX4_init_28 : decode cX4_init 28 = .ok (.invokespecial 26, 3) := by decide +kernel
theorem q_157 : (Cond.code yX6_init cX6_init 1 none) ∈ tw := tw_in (i := 157) (by decide +kernel) (by decide +kernel)
theorem q_155 : (Cond.methodLinkNest "NightfallVillage$Game" 26 yX6_init "NightfallVillage") ∈ tw := tw_in (i := 155) (by decide +kernel) (by decide +kernel)
theorem q_156 : (Cond.instanceMethod yX6_init) ∈ tw := tw_in (i := 156) (by decide +kernel) (by decide +kernel)
theorem dX4_init_31 : decode cX4_init 31 = .ok (.putfield 27, 3) := by decide +kernel
theorem q_210 : (Cond.fieldLink "NightfallVillage$Game" 27 "NightfallVillage$Game" "night" "LNightfallVillage$Night;") ∈ tw := tw_in (i := 210) (by decide +kernel) (by decide +kernel)
theorem dX4_init_34 : decode cX4_init 34 = .ok (.aload_n 0, 1) := by decide +kernel
theorem dX4_init_35 : decode cX4_init 35 = .ok (.new 31, 3) := by decide +kernel
theorem q_195 : (Cond.classLink "NightfallVillage$Game" 31 "NightfallVillage$Day") ∈ tw := tw_in (i := 195) (by decide +kernel) (by decide +kernel)
theorem q_196 : (Cond.instantiable "NightfallVillage$Day" 2) ∈ tw := tw_in (i := 196) (by decide +kernel) (by decide +kernel)
theorem q_7 : (Cond.initialized "NightfallVillage$Day") ∈ tw := tw_in (i := 7) (by decide +kernel) (by decide +kernel)
theorem dX4_init_38 : decode cX4_init 38 = .ok (.dup, 1) := by decide +kernel
theorem dX4_init_39 : decode cX4_init 39 = .ok (.invokespecial 33, 3) := by decide +kernel
theorem q_199 : (Cond.code yX1_init cX1_init 1 none) ∈ tw := tw_in (i := 199) (by decide +kernel) (by decide +kernel)
theorem q_197 : (Cond.methodLinkNest "NightfallVillage$Game" 33 yX1_init "NightfallVillage") ∈ tw := tw_in (i := 197) (by decide +kernel) (by decide +kernel)
theorem q_198 : (Cond.instanceMethod yX1_init) ∈ tw := tw_in (i := 198) (by decide +kernel) (by decide +kernel)
theorem dX4_init_42 : decode cX4_init 42 = .ok (.putfield 34, 3) := by decide +kernel
theorem q_212 : (Cond.fieldLink "NightfallVillage$Game" 34 "NightfallVillage$Game" "day" "LNightfallVillage$Day;") ∈ tw := tw_in (i := 212) (by decide +kernel) (by decide +kernel)
theorem dX4_init_45 : decode cX4_init 45 = .ok (.return_, 1) := by decide +kernel
set_option maxHeartbeats 4000000 in
set_option maxRecDepth 100000 in
theorem c_Game_init (l : Launch) (hst : l.stackTraces = false) (tE : Nat) (adK adV : Nat → Nat) (dC : Nat → ClassId) (dI : Nat → Nat → Nat) (h0 : Nat) (r0 : Nat) (d0 : Nat) (sz : Nat) : Met l yX4_init (Cond.code yX4_init cX4_init 3 none :: tw) ({ frames := 2, cells := 21, slots := 148, locals := 34 }) (va_Pc [.ref h0, .ref r0, .ref d0] (pre tE adK adV (dC, dI) [(h0, .inr (4, [.null, .null, .null, .int 0, .int 0, .int 0, .int 0]))] [] sz)) (va_Qv (fun (_ : Unit) => True) (fun (_ : Unit) (t : State) => ∃ (f0 : Nat) (n0 : Nat) (y0 : Nat) (q1 : Nat) (q2 : Nat) (q3 : Nat) (q4 : Nat) (q5 : Nat), va_P (dC, dI) cls [(h0, .inr (4, [.ref f0, .ref n0, .ref y0, .int 0, .int 0, .int 0, .int 45])), (f0, .inr (3, [.ref r0, .ref d0, .ref q1, .ref q2, .ref q3, .ref q4, .ref q5, .int 0, .int 0]))] t.heap ∧ va_K (dC, dI) cls [] t ∧ va_D (va_A [(h0, .inr (4, [.null, .null, .null, .int 0, .int 0, .int 0, .int 0]))] sz) [(h0, .inr (4, [.ref f0, .ref n0, .ref y0, .int 0, .int 0, .int 0, .int 45])), (f0, .inr (3, [.ref r0, .ref d0, .ref q1, .ref q2, .ref q3, .ref q4, .ref q5, .int 0, .int 0]))]) (va_A [(h0, .inr (4, [.null, .null, .null, .int 0, .int 0, .int 0, .int 0]))] sz)) 21 148 (va_A [(h0, .inr (4, [.null, .null, .null, .int 0, .int 0, .int 0, .int 0]))] sz) := by
  refine Met.ofW (cc := cX4_init) (maxL := 3) (ret := none) (by decide) rfl ?_
  intro p e s m args below meth c s₁ B hml hv
  obtain ⟨rfl, hsz, hP, hK, hD0, ham⟩ := hv
  have hx := B.exec
  have hb := B.bytes
  have hr := B.returns
  have hts := atoms_spec B.pre
  have hq : ∀ w ∈ tw, w.before _ s = true := fun w h => hts w (List.mem_cons_of_mem _ h)
  have hown : s.vm.findClass RX4 = some m.cls := findClass_of_methodNamed B.named
  have hlocks := B.notSynchronized
  have hin : meth.name = "<init>" := (name_of_methodNamed B.named B.method).1
  subst hsz
  have hD := hD0.self (sz := s.heap.size)
  generalize hAe : va_A [(h0, .inr (4, [.null, .null, .null, .int 0, .int 0, .int 0, .int 0]))] s.heap.size = A at hD ham ⊢
  have hA : ∀ q : Nat, s.heap.size ≤ q → A q := fun q h => by rw [← hAe]; exact Or.inr h
  have hS : va_S A s.heap s.heap [] := va_S.rf
  have hP : va_P (dC, dI) cls [(h0, .inr (4, [.null, .null, .null, .int 0, .int 0, .int 0, .int 0]))] s.heap := hP
  have hl := lv_entry ([.ref h0, .ref r0, .ref d0]) (n := 3) (Nat.le_of_ble_eq_true rfl)
  rw [lg_entry_eq]
  generalize (lg_sl ([.ref h0, .ref r0, .ref d0]) ++ List.replicate (3 - (lg_sl ([.ref h0, .ref r0, .ref d0])).length) Slot.unset).toArray = ls at hl ⊢
  have hl : lv_has ls 3 [(0, .ref h0), (1, .ref r0), (2, .ref d0)] := hl
  refine lv_aload_n hx hb dX4_init_0 rfl (lv_at hl 0 rfl) ?_
  refine W.objInit hx hb hown (hq _ q_116) (hq _ q_45) (hq _ q_46) rfl (by rw [hml]; exact hl.1) rfl dX4_init_1 (Nat.le_of_ble_eq_true rfl) (Nat.le_of_ble_eq_true rfl) ?_
  refine W.eq (g2 := F0 m 4 ls []) rfl ?_
  refine lv_aload_n hx hb dX4_init_4 rfl (lv_at hl 0 rfl) ?_
  refine lv_bipush (v := 45) hx hb dX4_init_5 (by decide) ?_
  refine va_put (D := (dC, dI)) (ci := 4) (v := .int 45) (ty := .char) (C := RX4) (T := TX4) (N := 7) hx hb hq i_X4 tyX4 tyX4_ok nmX4 hown hK hP hD hS 0 rfl rfl 6 (by decide) (hq _ q_220) (fun _ h9 => h9) rfl (by decide +kernel) (by decide) (by decide +kernel) (Nat.le_of_ble_eq_true rfl) dX4_init_7 (fun H locs hP hD hS => ?_)
  have hP : va_P (dC, dI) cls [(h0, .inr (4, [.null, .null, .null, .int 0, .int 0, .int 0, .int 45]))] H := hP
  have hD : va_D A [(h0, .inr (4, [.null, .null, .null, .int 0, .int 0, .int 0, .int 45]))] := hD
  refine lv_aload_n hx hb dX4_init_10 rfl (lv_at hl 0 rfl) ?_
  refine va_new (ci := 3) (fs := [.null, .null, .null, .null, .null, .null, .null, .int 0, .int 0]) (C := RX3) (T := TX3) (N := 9) hx hb hq i_X3 tyX3 tyX3_ok hown (hq _ q_117) (hq _ q_118) (hq _ q_5) hK hP hD hS hA rfl (fun j hj => by rcases (show j = 0 ∨ j = 1 ∨ j = 2 ∨ j = 3 ∨ j = 4 ∨ j = 5 ∨ j = 6 ∨ j = 7 ∨ j = 8 by omega) with rfl | rfl | rfl | rfl | rfl | rfl | rfl | rfl | rfl <;> rfl) (Nat.le_of_ble_eq_true rfl) (Nat.le_of_ble_eq_true rfl) dX4_init_11 (fun a_1 H hP hD hS => ?_)
  have hP : va_P (dC, dI) cls [(h0, .inr (4, [.null, .null, .null, .int 0, .int 0, .int 0, .int 45])), (a_1, .inr (3, [.null, .null, .null, .null, .null, .null, .null, .int 0, .int 0]))] H := hP
  have hD : va_D A [(h0, .inr (4, [.null, .null, .null, .int 0, .int 0, .int 0, .int 45])), (a_1, .inr (3, [.null, .null, .null, .null, .null, .null, .null, .int 0, .int 0]))] := hD
  refine W.widen (k := 1) (n := 9) (Nat.le_of_ble_eq_true rfl) (Nat.le_of_ble_eq_true rfl) ?_
  refine lv_dup hx hb dX4_init_14 rfl ?_
  refine lv_aload_n hx hb dX4_init_15 rfl (lv_at hl 1 rfl) ?_
  refine lv_aload_n hx hb dX4_init_16 rfl (lv_at hl 2 rfl) ?_
  have hPc := hP.sub (ws' := [(a_1, .inr (3, [.null, .null, .null, .null, .null, .null, .null, .int 0, .int 0]))]) [1] rfl
  have hKc := hK.sub (tys' := []) [] rfl
  have hDc := hD.sub (ws' := [(a_1, .inr (3, [.null, .null, .null, .null, .null, .null, .null, .int 0, .int 0]))]) [1] (by decide) rfl
  have hFc := va_free (wc := [(a_1, .inr (3, [.null, .null, .null, .null, .null, .null, .null, .int 0, .int 0]))]) hD hS hA [1] rfl
  refine va_callv (va_runI (As := [.ref r0, .ref d0]) (rest := [.ref a_1, .ref h0]) ⟨hx, hb, hml, hown, hq⟩ (c_Folk_init l hst tE adK adV dC dI a_1 r0 d0 H.size) (tcI 2 hq q_121 q_5 q_119 q_120 rfl rfl rfl (by decide +kernel) ⟨Nat.le_of_ble_eq_true rfl, Nat.le_of_ble_eq_true rfl⟩) (pre.S (pre.of hPc hDc hKc ham hS hFc)) rfl rfl hl.1 rfl (lv_room (Nat.le_of_ble_eq_true rfl)) dX4_init_17 ⟨Nat.le_of_ble_eq_true rfl, Nat.le_of_ble_eq_true rfl⟩) hS (fun q _ h => hFc q h) hFc (fun u t H1 locs ht hvm hw hB hz1 hk1 hS => ?_)
  obtain ⟨q1_3, q2_4, q3_5, q4_6, q5_7, hP1, hK1, hD1⟩ := hB
  rw [ht] at hP1
  have hK1 := va_K.moved hvm.symm hK1
  obtain ⟨hP, hD⟩ := va_join (wr := [(h0, .inr (4, [.null, .null, .null, .int 0, .int 0, .int 0, .int 45]))]) (w1 := [(a_1, .inr (3, [.ref r0, .ref d0, .ref q1_3, .ref q2_4, .ref q3_5, .ref q4_6, .ref q5_7, .int 0, .int 0]))]) (wc := [(a_1, .inr (3, [.null, .null, .null, .null, .null, .null, .null, .int 0, .int 0]))]) hP hD [1] [0] rfl rfl (by decide) (by decide) hk1 hFc hP1 hD1
  have hK := (hK.sub (tys' := []) [] rfl).app hK1
  generalize H1 = H at hP hS ⊢
  have hP : va_P (dC, dI) cls [(h0, .inr (4, [.null, .null, .null, .int 0, .int 0, .int 0, .int 45])), (a_1, .inr (3, [.ref r0, .ref d0, .ref q1_3, .ref q2_4, .ref q3_5, .ref q4_6, .ref q5_7, .int 0, .int 0]))] H := hP
  have hD : va_D A [(h0, .inr (4, [.null, .null, .null, .int 0, .int 0, .int 0, .int 45])), (a_1, .inr (3, [.ref r0, .ref d0, .ref q1_3, .ref q2_4, .ref q3_5, .ref q4_6, .ref q5_7, .int 0, .int 0]))] := hD
  have hK : va_K (dC, dI) cls [] s := hK
  refine W.widen (k := 6) (n := 44) (Nat.le_of_ble_eq_true rfl) (Nat.le_of_ble_eq_true rfl) ?_
  refine va_putF (D := (dC, dI)) (ci := 4) (v := .ref a_1) (ty := (.object "NightfallVillage$Folk")) (C := RX4) (T := TX4) (N := 7) hx hb hq i_X4 tyX4 tyX4_ok nmX4 hown hK hP hD hS 0 rfl rfl 0 (by decide) (hq _ q_208) (fun _ h9 => h9) rfl hin rfl (by decide +kernel) rfl rfl (Nat.le_of_ble_eq_true rfl) dX4_init_20 (fun H locs hP hD hS => ?_)
  have hP : va_P (dC, dI) cls [(h0, .inr (4, [.ref a_1, .null, .null, .int 0, .int 0, .int 0, .int 45])), (a_1, .inr (3, [.ref r0, .ref d0, .ref q1_3, .ref q2_4, .ref q3_5, .ref q4_6, .ref q5_7, .int 0, .int 0]))] H := hP
  have hD : va_D A [(h0, .inr (4, [.ref a_1, .null, .null, .int 0, .int 0, .int 0, .int 45])), (a_1, .inr (3, [.ref r0, .ref d0, .ref q1_3, .ref q2_4, .ref q3_5, .ref q4_6, .ref q5_7, .int 0, .int 0]))] := hD
  refine lv_aload_n hx hb dX4_init_23 rfl (lv_at hl 0 rfl) ?_
  refine va_new (ci := 6) (fs := [.null, .null, .null, .null, .null, .null, .null, .null, .null, .null, .null]) (C := RX6) (T := TX6) (N := 11) hx hb hq i_X6 tyX6 tyX6_ok hown (hq _ q_153) (hq _ q_154) (hq _ q_6) hK hP hD hS hA rfl (fun j hj => by rcases (show j = 0 ∨ j = 1 ∨ j = 2 ∨ j = 3 ∨ j = 4 ∨ j = 5 ∨ j = 6 ∨ j = 7 ∨ j = 8 ∨ j = 9 ∨ j = 10 by omega) with rfl | rfl | rfl | rfl | rfl | rfl | rfl | rfl | rfl | rfl | rfl <;> rfl) (Nat.le_of_ble_eq_true rfl) (Nat.le_of_ble_eq_true rfl) dX4_init_24 (fun a_8 H hP hD hS => ?_)
  have hP : va_P (dC, dI) cls [(h0, .inr (4, [.ref a_1, .null, .null, .int 0, .int 0, .int 0, .int 45])), (a_1, .inr (3, [.ref r0, .ref d0, .ref q1_3, .ref q2_4, .ref q3_5, .ref q4_6, .ref q5_7, .int 0, .int 0])), (a_8, .inr (6, [.null, .null, .null, .null, .null, .null, .null, .null, .null, .null, .null]))] H := hP
  have hD : va_D A [(h0, .inr (4, [.ref a_1, .null, .null, .int 0, .int 0, .int 0, .int 45])), (a_1, .inr (3, [.ref r0, .ref d0, .ref q1_3, .ref q2_4, .ref q3_5, .ref q4_6, .ref q5_7, .int 0, .int 0])), (a_8, .inr (6, [.null, .null, .null, .null, .null, .null, .null, .null, .null, .null, .null]))] := hD
  refine W.widen (k := 7) (n := 55) (Nat.le_of_ble_eq_true rfl) (Nat.le_of_ble_eq_true rfl) ?_
  refine lv_dup hx hb dX4_init_27 rfl ?_
  have hPc := hP.sub (ws' := [(a_8, .inr (6, [.null, .null, .null, .null, .null, .null, .null, .null, .null, .null, .null]))]) [2] rfl
  have hKc := hK.sub (tys' := []) [] rfl
  have hDc := hD.sub (ws' := [(a_8, .inr (6, [.null, .null, .null, .null, .null, .null, .null, .null, .null, .null, .null]))]) [2] (by decide) rfl
  have hFc := va_free (wc := [(a_8, .inr (6, [.null, .null, .null, .null, .null, .null, .null, .null, .null, .null, .null]))]) hD hS hA [2] rfl
  refine va_callv (va_runIN (As := []) (rest := [.ref a_8, .ref h0]) ⟨hx, hb, hml, hown, hq⟩ (c_Night_init l hst tE adK adV dC dI a_8 H.size) (tcIN 0 hq q_157 q_6 q_155 q_156 rfl rfl rfl (by decide +kernel) ⟨Nat.le_of_ble_eq_true rfl, Nat.le_of_ble_eq_true rfl⟩) (pre.S (pre.of hPc hDc hKc ham hS hFc)) rfl rfl hl.1 rfl (lv_room (Nat.le_of_ble_eq_true rfl)) dX4_init_28 ⟨Nat.le_of_ble_eq_true rfl, Nat.le_of_ble_eq_true rfl⟩) hS (fun q _ h => hFc q h) hFc (fun u t H1 locs ht hvm hw hB hz1 hk1 hS => ?_)
  obtain ⟨hP, hD⟩ := va_join (wr := [(h0, .inr (4, [.ref a_1, .null, .null, .int 0, .int 0, .int 0, .int 45])), (a_1, .inr (3, [.ref r0, .ref d0, .ref q1_3, .ref q2_4, .ref q3_5, .ref q4_6, .ref q5_7, .int 0, .int 0]))]) (w1 := []) (wc := [(a_8, .inr (6, [.null, .null, .null, .null, .null, .null, .null, .null, .null, .null, .null]))]) hP hD [2] [0, 1] rfl rfl (by decide) (by decide) hk1 hFc (fun k q h => by simp at h) ⟨fun i j p q h => by simp at h, fun k q h => by simp at h⟩
  generalize H1 = H at hP hS ⊢
  have hP : va_P (dC, dI) cls [(h0, .inr (4, [.ref a_1, .null, .null, .int 0, .int 0, .int 0, .int 45])), (a_1, .inr (3, [.ref r0, .ref d0, .ref q1_3, .ref q2_4, .ref q3_5, .ref q4_6, .ref q5_7, .int 0, .int 0]))] H := hP
  have hD : va_D A [(h0, .inr (4, [.ref a_1, .null, .null, .int 0, .int 0, .int 0, .int 45])), (a_1, .inr (3, [.ref r0, .ref d0, .ref q1_3, .ref q2_4, .ref q3_5, .ref q4_6, .ref q5_7, .int 0, .int 0]))] := hD
  have hK : va_K (dC, dI) cls [] s := hK
  refine W.widen (k := 18) (n := 132) (Nat.le_of_ble_eq_true rfl) (Nat.le_of_ble_eq_true rfl) ?_
  refine va_putF (D := (dC, dI)) (ci := 4) (v := .ref a_8) (ty := (.object "NightfallVillage$Night")) (C := RX4) (T := TX4) (N := 7) hx hb hq i_X4 tyX4 tyX4_ok nmX4 hown hK hP hD hS 0 rfl rfl 1 (by decide) (hq _ q_210) (fun _ h9 => h9) rfl hin rfl (by decide +kernel) rfl rfl (Nat.le_of_ble_eq_true rfl) dX4_init_31 (fun H locs hP hD hS => ?_)
  have hP : va_P (dC, dI) cls [(h0, .inr (4, [.ref a_1, .ref a_8, .null, .int 0, .int 0, .int 0, .int 45])), (a_1, .inr (3, [.ref r0, .ref d0, .ref q1_3, .ref q2_4, .ref q3_5, .ref q4_6, .ref q5_7, .int 0, .int 0]))] H := hP
  have hD : va_D A [(h0, .inr (4, [.ref a_1, .ref a_8, .null, .int 0, .int 0, .int 0, .int 45])), (a_1, .inr (3, [.ref r0, .ref d0, .ref q1_3, .ref q2_4, .ref q3_5, .ref q4_6, .ref q5_7, .int 0, .int 0]))] := hD
  refine lv_aload_n hx hb dX4_init_34 rfl (lv_at hl 0 rfl) ?_
  refine va_new (ci := 1) (fs := [.null, .null]) (C := RX1) (T := TX1) (N := 2) hx hb hq i_X1 tyX1 tyX1_ok hown (hq _ q_195) (hq _ q_196) (hq _ q_7) hK hP hD hS hA rfl (fun j hj => by rcases (show j = 0 ∨ j = 1 by omega) with rfl | rfl <;> rfl) (Nat.le_of_ble_eq_true rfl) (Nat.le_of_ble_eq_true rfl) dX4_init_35 (fun a_10 H hP hD hS => ?_)
  have hP : va_P (dC, dI) cls [(h0, .inr (4, [.ref a_1, .ref a_8, .null, .int 0, .int 0, .int 0, .int 45])), (a_1, .inr (3, [.ref r0, .ref d0, .ref q1_3, .ref q2_4, .ref q3_5, .ref q4_6, .ref q5_7, .int 0, .int 0])), (a_10, .inr (1, [.null, .null]))] H := hP
  have hD : va_D A [(h0, .inr (4, [.ref a_1, .ref a_8, .null, .int 0, .int 0, .int 0, .int 45])), (a_1, .inr (3, [.ref r0, .ref d0, .ref q1_3, .ref q2_4, .ref q3_5, .ref q4_6, .ref q5_7, .int 0, .int 0])), (a_10, .inr (1, [.null, .null]))] := hD
  refine W.widen (k := 19) (n := 134) (Nat.le_of_ble_eq_true rfl) (Nat.le_of_ble_eq_true rfl) ?_
  refine lv_dup hx hb dX4_init_38 rfl ?_
  have hPc := hP.sub (ws' := [(a_10, .inr (1, [.null, .null]))]) [2] rfl
  have hKc := hK.sub (tys' := []) [] rfl
  have hDc := hD.sub (ws' := [(a_10, .inr (1, [.null, .null]))]) [2] (by decide) rfl
  have hFc := va_free (wc := [(a_10, .inr (1, [.null, .null]))]) hD hS hA [2] rfl
  refine va_callv (va_runIN (As := []) (rest := [.ref a_10, .ref h0]) ⟨hx, hb, hml, hown, hq⟩ (c_Day_init l hst tE adK adV dC dI a_10 H.size) (tcIN 0 hq q_199 q_7 q_197 q_198 rfl rfl rfl (by decide +kernel) ⟨Nat.le_of_ble_eq_true rfl, Nat.le_of_ble_eq_true rfl⟩) (pre.S (pre.of hPc hDc hKc ham hS hFc)) rfl rfl hl.1 rfl (lv_room (Nat.le_of_ble_eq_true rfl)) dX4_init_39 ⟨Nat.le_of_ble_eq_true rfl, Nat.le_of_ble_eq_true rfl⟩) hS (fun q _ h => hFc q h) hFc (fun u t H1 locs ht hvm hw hB hz1 hk1 hS => ?_)
  obtain ⟨hP, hD⟩ := va_join (wr := [(h0, .inr (4, [.ref a_1, .ref a_8, .null, .int 0, .int 0, .int 0, .int 45])), (a_1, .inr (3, [.ref r0, .ref d0, .ref q1_3, .ref q2_4, .ref q3_5, .ref q4_6, .ref q5_7, .int 0, .int 0]))]) (w1 := []) (wc := [(a_10, .inr (1, [.null, .null]))]) hP hD [2] [0, 1] rfl rfl (by decide) (by decide) hk1 hFc (fun k q h => by simp at h) ⟨fun i j p q h => by simp at h, fun k q h => by simp at h⟩
  generalize H1 = H at hP hS ⊢
  have hP : va_P (dC, dI) cls [(h0, .inr (4, [.ref a_1, .ref a_8, .null, .int 0, .int 0, .int 0, .int 45])), (a_1, .inr (3, [.ref r0, .ref d0, .ref q1_3, .ref q2_4, .ref q3_5, .ref q4_6, .ref q5_7, .int 0, .int 0]))] H := hP
  have hD : va_D A [(h0, .inr (4, [.ref a_1, .ref a_8, .null, .int 0, .int 0, .int 0, .int 45])), (a_1, .inr (3, [.ref r0, .ref d0, .ref q1_3, .ref q2_4, .ref q3_5, .ref q4_6, .ref q5_7, .int 0, .int 0]))] := hD
  have hK : va_K (dC, dI) cls [] s := hK
  refine W.widen (k := 21) (n := 148) (Nat.le_of_ble_eq_true rfl) (Nat.le_of_ble_eq_true rfl) ?_
  refine va_putF (D := (dC, dI)) (ci := 4) (v := .ref a_10) (ty := (.object "NightfallVillage$Day")) (C := RX4) (T := TX4) (N := 7) hx hb hq i_X4 tyX4 tyX4_ok nmX4 hown hK hP hD hS 0 rfl rfl 2 (by decide) (hq _ q_212) (fun _ h9 => h9) rfl hin rfl (by decide +kernel) rfl rfl (Nat.le_of_ble_eq_true rfl) dX4_init_42 (fun H locs hP hD hS => ?_)
  have hP : va_P (dC, dI) cls [(h0, .inr (4, [.ref a_1, .ref a_8, .ref a_10, .int 0, .int 0, .int 0, .int 45])), (a_1, .inr (3, [.ref r0, .ref d0, .ref q1_3, .ref q2_4, .ref q3_5, .ref q4_6, .ref q5_7, .int 0, .int 0]))] H := hP
  have hD : va_D A [(h0, .inr (4, [.ref a_1, .ref a_8, .ref a_10, .int 0, .int 0, .int 0, .int 45])), (a_1, .inr (3, [.ref r0, .ref d0, .ref q1_3, .ref q2_4, .ref q3_5, .ref q4_6, .ref q5_7, .int 0, .int 0]))] := hD
  refine W.widen (k := 21) (n := 148) (Nat.le_of_ble_eq_true rfl) (Nat.le_of_ble_eq_true rfl) ?_
  have hP9 := hP.sub (ws' := [(h0, .inr (4, [.ref a_1, .ref a_8, .ref a_10, .int 0, .int 0, .int 0, .int 45])), (a_1, .inr (3, [.ref r0, .ref d0, .ref q1_3, .ref q2_4, .ref q3_5, .ref q4_6, .ref q5_7, .int 0, .int 0]))]) [0, 1] rfl
  have hD9 := hD.sub (ws' := [(h0, .inr (4, [.ref a_1, .ref a_8, .ref a_10, .int 0, .int 0, .int 0, .int 45])), (a_1, .inr (3, [.ref r0, .ref d0, .ref q1_3, .ref q2_4, .ref q3_5, .ref q4_6, .ref q5_7, .int 0, .int 0]))]) [0, 1] (by decide) rfl
  have hK9 := hK.sub (tys' := []) [] rfl
  exact W.vret hx hb hr (fun t ht hW => ⟨⟨(), rfl, trivial, ⟨a_1, a_8, a_10, q1_3, q2_4, q3_5, q4_6, q5_7, by rw [ht]; exact hP9, va_K.moved hW.alike hK9, hD9⟩⟩, hS.F ht⟩) hS.2.2 dX4_init_45
abbrev cX9_init : ByteArray := prog_11_method_1_code
def yX9_init : MethodName := ⟨RX9, "<init>", "(LNightfallVillage$Roles;LNightfallVillage$Deal;LNightfallVillage$Folk;LNightfallVillage$Sights;)V"⟩
theorem dX9_init_0 : decode cX9_init 0 = .ok (.aload_n 0, 1) := by decide +kernel
theorem dX9_init_1 : decode cX9_init 1 = .ok (.invokespecial 3, 3) := by decide +kernel
theorem q_296 : (Cond.methodLink "NightfallVillage$Worlds" 3 objectInit) ∈ tw := tw_in (i := 296) (by decide +kernel) (by decide +kernel)
theorem dX9_init_4 : decode cX9_init 4 = .ok (.aload_n 0, 1) := by decide +kernel
theorem dX9_init_5 : decode cX9_init 5 = .ok (.bipush 7, 2) := by decide +kernel
theorem dX9_init_7 : decode cX9_init 7 = .ok (.newarray .int, 2) := by decide +kernel
theorem dX9_init_9 : decode cX9_init 9 = .ok (.putfield 9, 3) := by decide +kernel
theorem q_301 : (Cond.fieldLink "NightfallVillage$Worlds" 9 "NightfallVillage$Worlds" "world" "[I") ∈ tw := tw_in (i := 301) (by decide +kernel) (by decide +kernel)
theorem dX9_init_12 : decode cX9_init 12 = .ok (.aload_n 0, 1) := by decide +kernel
theorem dX9_init_13 : decode cX9_init 13 = .ok (.bipush 8, 2) := by decide +kernel
theorem dX9_init_15 : decode cX9_init 15 = .ok (.newarray .int, 2) := by decide +kernel
theorem dX9_init_17 : decode cX9_init 17 = .ok (.putfield 15, 3) := by decide +kernel
theorem q_302 : (Cond.fieldLink "NightfallVillage$Worlds" 15 "NightfallVillage$Worlds" "left" "[I") ∈ tw := tw_in (i := 302) (by decide +kernel) (by decide +kernel)
theorem dX9_init_20 : decode cX9_init 20 = .ok (.aload_n 0, 1) := by decide +kernel
theorem dX9_init_21 : decode cX9_init 21 = .ok (.bipush 56, 2) := by decide +kernel
theorem dX9_init_23 : decode cX9_init 23 = .ok (.newarray .int, 2) := by decide +kernel
theorem dX9_init_25 : decode cX9_init 25 = .ok (.putfield 18, 3) := by decide +kernel
theorem q_303 : (Cond.fieldLink "NightfallVillage$Worlds" 18 "NightfallVillage$Worlds" "tallies" "[I") ∈ tw := tw_in (i := 303) (by decide +kernel) (by decide +kernel)
theorem dX9_init_28 : decode cX9_init 28 = .ok (.aload_n 0, 1) := by decide +kernel
theorem dX9_init_29 : decode cX9_init 29 = .ok (.iconst (-1), 1) := by decide +kernel
theorem dX9_init_30 : decode cX9_init 30 = .ok (.putfield 21, 3) := by decide +kernel
theorem q_304 : (Cond.fieldLink "NightfallVillage$Worlds" 21 "NightfallVillage$Worlds" "knower" "I") ∈ tw := tw_in (i := 304) (by decide +kernel) (by decide +kernel)
theorem dX9_init_33 : decode cX9_init 33 = .ok (.aload_n 0, 1) := by decide +kernel
theorem dX9_init_34 : decode cX9_init 34 = .ok (.aload_n 1, 1) := by decide +kernel
theorem dX9_init_35 : decode cX9_init 35 = .ok (.putfield 25, 3) := by decide +kernel
theorem q_297 : (Cond.fieldLink "NightfallVillage$Worlds" 25 "NightfallVillage$Worlds" "roles" "LNightfallVillage$Roles;") ∈ tw := tw_in (i := 297) (by decide +kernel) (by decide +kernel)
theorem dX9_init_38 : decode cX9_init 38 = .ok (.aload_n 0, 1) := by decide +kernel
theorem dX9_init_39 : decode cX9_init 39 = .ok (.aload_n 2, 1) := by decide +kernel
theorem dX9_init_40 : decode cX9_init 40 = .ok (.putfield 29, 3) := by decide +kernel
theorem q_298 : (Cond.fieldLink "NightfallVillage$Worlds" 29 "NightfallVillage$Worlds" "deal" "LNightfallVillage$Deal;") ∈ tw := tw_in (i := 298) (by decide +kernel) (by decide +kernel)
theorem dX9_init_43 : decode cX9_init 43 = .ok (.aload_n 0, 1) := by decide +kernel
theorem dX9_init_44 : decode cX9_init 44 = .ok (.aload_n 3, 1) := by decide +kernel
theorem dX9_init_45 : decode cX9_init 45 = .ok (.putfield 33, 3) := by decide +kernel
theorem q_299 : (Cond.fieldLink "NightfallVillage$Worlds" 33 "NightfallVillage$Worlds" "folk" "LNightfallVillage$Folk;") ∈ tw := tw_in (i := 299) (by decide +kernel) (by decide +kernel)
theorem dX9_init_48 : decode cX9_init 48 = .ok (.aload_n 0, 1) := by decide +kernel
theorem dX9_init_49 : decode cX9_init 49 = .ok (.aload 4, 2) := by decide +kernel
theorem dX9_init_51 : decode cX9_init 51 = .ok (.putfield 37, 3) := by decide +kernel
theorem q_300 : (Cond.fieldLink "NightfallVillage$Worlds" 37 "NightfallVillage$Worlds" "sights" "LNightfallVillage$Sights;") ∈ tw := tw_in (i := 300) (by decide +kernel) (by decide +kernel)
theorem dX9_init_54 : decode cX9_init 54 = .ok (.return_, 1) := by decide +kernel
set_option maxHeartbeats 4000000 in
set_option maxRecDepth 100000 in
theorem c_Worlds_init (l : Launch) (hst : l.stackTraces = false) (tE : Nat) (adK adV : Nat → Nat) (dC : Nat → ClassId) (dI : Nat → Nat → Nat) (h0 : Nat) (r0 : Nat) (d0 : Nat) (f0 : Nat) (s0 : Nat) (sz : Nat) : Met l yX9_init (Cond.code yX9_init cX9_init 5 none :: tw) ({ frames := 1, cells := 3, slots := 71, locals := 12 }) (va_Pc [.ref h0, .ref r0, .ref d0, .ref f0, .ref s0] (pre tE adK adV (dC, dI) [(h0, .inr (9, [.null, .null, .null, .null, .null, .null, .null, .int 0, .int 0]))] [] sz)) (va_Qv (fun (_ : Unit) => True) (fun (_ : Unit) (_ : State) => True) (va_A [(h0, .inr (9, [.null, .null, .null, .null, .null, .null, .null, .int 0, .int 0]))] sz)) 3 71 (va_A [(h0, .inr (9, [.null, .null, .null, .null, .null, .null, .null, .int 0, .int 0]))] sz) := by
  refine Met.ofW (cc := cX9_init) (maxL := 5) (ret := none) (by decide) rfl ?_
  intro p e s m args below meth c s₁ B hml hv
  obtain ⟨rfl, hsz, hP, hK, hD0, ham⟩ := hv
  have hx := B.exec
  have hb := B.bytes
  have hr := B.returns
  have hts := atoms_spec B.pre
  have hq : ∀ w ∈ tw, w.before _ s = true := fun w h => hts w (List.mem_cons_of_mem _ h)
  have hown : s.vm.findClass RX9 = some m.cls := findClass_of_methodNamed B.named
  have hlocks := B.notSynchronized
  have hin : meth.name = "<init>" := (name_of_methodNamed B.named B.method).1
  subst hsz
  have hD := hD0.self (sz := s.heap.size)
  generalize hAe : va_A [(h0, .inr (9, [.null, .null, .null, .null, .null, .null, .null, .int 0, .int 0]))] s.heap.size = A at hD ham ⊢
  have hA : ∀ q : Nat, s.heap.size ≤ q → A q := fun q h => by rw [← hAe]; exact Or.inr h
  have hS : va_S A s.heap s.heap [] := va_S.rf
  have hP : va_P (dC, dI) cls [(h0, .inr (9, [.null, .null, .null, .null, .null, .null, .null, .int 0, .int 0]))] s.heap := hP
  have hl := lv_entry ([.ref h0, .ref r0, .ref d0, .ref f0, .ref s0]) (n := 5) (Nat.le_of_ble_eq_true rfl)
  rw [lg_entry_eq]
  generalize (lg_sl ([.ref h0, .ref r0, .ref d0, .ref f0, .ref s0]) ++ List.replicate (5 - (lg_sl ([.ref h0, .ref r0, .ref d0, .ref f0, .ref s0])).length) Slot.unset).toArray = ls at hl ⊢
  have hl : lv_has ls 5 [(0, .ref h0), (1, .ref r0), (2, .ref d0), (3, .ref f0), (4, .ref s0)] := hl
  refine lv_aload_n hx hb dX9_init_0 rfl (lv_at hl 0 rfl) ?_
  refine W.objInit hx hb hown (hq _ q_296) (hq _ q_45) (hq _ q_46) rfl (by rw [hml]; exact hl.1) rfl dX9_init_1 (Nat.le_of_ble_eq_true rfl) (Nat.le_of_ble_eq_true rfl) ?_
  refine W.eq (g2 := F0 m 4 ls []) rfl ?_
  refine lv_aload_n hx hb dX9_init_4 rfl (lv_at hl 0 rfl) ?_
  refine lv_bipush (v := 7) hx hb dX9_init_5 (by decide) ?_
  refine va_newa (atype := .int) (a0 := (7, .inl (fun _ => 0))) hx hb (hq _ q_81) rfl hK hP hD hS hA (fun _ => rfl) (by decide) (by decide) (Nat.le_of_ble_eq_true rfl) (Nat.le_of_ble_eq_true rfl) (Nat.le_of_ble_eq_true rfl) dX9_init_7 (fun a_1 cA_2 H hK hP hD hS => ?_)
  have hP : va_P (dC, dI) cls [(h0, .inr (9, [.null, .null, .null, .null, .null, .null, .null, .int 0, .int 0])), (a_1, .inl (cA_2, 7, .inl (fun _ => 0)))] H := hP
  have hD : va_D A [(h0, .inr (9, [.null, .null, .null, .null, .null, .null, .null, .int 0, .int 0])), (a_1, .inl (cA_2, 7, .inl (fun _ => 0)))] := hD
  have hK : va_K (dC, dI) cls [(cA_2, .int)] s := hK
  refine W.widen (k := 1) (n := 7) (Nat.le_of_ble_eq_true rfl) (Nat.le_of_ble_eq_true rfl) ?_
  refine va_putF (D := (dC, dI)) (ci := 9) (v := .ref a_1) (ty := (.array .int)) (C := RX9) (T := TX9) (N := 9) hx hb hq i_X9 tyX9 tyX9_ok nmX9 hown hK hP hD hS 0 rfl rfl 4 (by decide) (hq _ q_301) (fun _ h9 => h9) rfl hin rfl (by decide +kernel) rfl rfl (Nat.le_of_ble_eq_true rfl) dX9_init_9 (fun H locs hP hD hS => ?_)
  have hP : va_P (dC, dI) cls [(h0, .inr (9, [.null, .null, .null, .null, .ref a_1, .null, .null, .int 0, .int 0])), (a_1, .inl (cA_2, 7, .inl (fun _ => 0)))] H := hP
  have hD : va_D A [(h0, .inr (9, [.null, .null, .null, .null, .ref a_1, .null, .null, .int 0, .int 0])), (a_1, .inl (cA_2, 7, .inl (fun _ => 0)))] := hD
  refine lv_aload_n hx hb dX9_init_12 rfl (lv_at hl 0 rfl) ?_
  refine lv_bipush (v := 8) hx hb dX9_init_13 (by decide) ?_
  refine va_newa (atype := .int) (a0 := (8, .inl (fun _ => 0))) hx hb (hq _ q_81) rfl hK hP hD hS hA (fun _ => rfl) (by decide) (by decide) (Nat.le_of_ble_eq_true rfl) (Nat.le_of_ble_eq_true rfl) (Nat.le_of_ble_eq_true rfl) dX9_init_15 (fun a_3 cA_4 H hK hP hD hS => ?_)
  have hP : va_P (dC, dI) cls [(h0, .inr (9, [.null, .null, .null, .null, .ref a_1, .null, .null, .int 0, .int 0])), (a_1, .inl (cA_2, 7, .inl (fun _ => 0))), (a_3, .inl (cA_4, 8, .inl (fun _ => 0)))] H := hP
  have hD : va_D A [(h0, .inr (9, [.null, .null, .null, .null, .ref a_1, .null, .null, .int 0, .int 0])), (a_1, .inl (cA_2, 7, .inl (fun _ => 0))), (a_3, .inl (cA_4, 8, .inl (fun _ => 0)))] := hD
  have hK : va_K (dC, dI) cls [(cA_2, .int), (cA_4, .int)] s := hK
  refine W.widen (k := 2) (n := 15) (Nat.le_of_ble_eq_true rfl) (Nat.le_of_ble_eq_true rfl) ?_
  refine va_putF (D := (dC, dI)) (ci := 9) (v := .ref a_3) (ty := (.array .int)) (C := RX9) (T := TX9) (N := 9) hx hb hq i_X9 tyX9 tyX9_ok nmX9 hown hK hP hD hS 0 rfl rfl 5 (by decide) (hq _ q_302) (fun _ h9 => h9) rfl hin rfl (by decide +kernel) rfl rfl (Nat.le_of_ble_eq_true rfl) dX9_init_17 (fun H locs hP hD hS => ?_)
  have hP : va_P (dC, dI) cls [(h0, .inr (9, [.null, .null, .null, .null, .ref a_1, .ref a_3, .null, .int 0, .int 0])), (a_1, .inl (cA_2, 7, .inl (fun _ => 0))), (a_3, .inl (cA_4, 8, .inl (fun _ => 0)))] H := hP
  have hD : va_D A [(h0, .inr (9, [.null, .null, .null, .null, .ref a_1, .ref a_3, .null, .int 0, .int 0])), (a_1, .inl (cA_2, 7, .inl (fun _ => 0))), (a_3, .inl (cA_4, 8, .inl (fun _ => 0)))] := hD
  refine lv_aload_n hx hb dX9_init_20 rfl (lv_at hl 0 rfl) ?_
  refine lv_bipush (v := 56) hx hb dX9_init_21 (by decide) ?_
  refine va_newa (atype := .int) (a0 := (56, .inl (fun _ => 0))) hx hb (hq _ q_81) rfl hK hP hD hS hA (fun _ => rfl) (by decide) (by decide) (Nat.le_of_ble_eq_true rfl) (Nat.le_of_ble_eq_true rfl) (Nat.le_of_ble_eq_true rfl) dX9_init_23 (fun a_5 cA_6 H hK hP hD hS => ?_)
  have hP : va_P (dC, dI) cls [(h0, .inr (9, [.null, .null, .null, .null, .ref a_1, .ref a_3, .null, .int 0, .int 0])), (a_1, .inl (cA_2, 7, .inl (fun _ => 0))), (a_3, .inl (cA_4, 8, .inl (fun _ => 0))), (a_5, .inl (cA_6, 56, .inl (fun _ => 0)))] H := hP
  have hD : va_D A [(h0, .inr (9, [.null, .null, .null, .null, .ref a_1, .ref a_3, .null, .int 0, .int 0])), (a_1, .inl (cA_2, 7, .inl (fun _ => 0))), (a_3, .inl (cA_4, 8, .inl (fun _ => 0))), (a_5, .inl (cA_6, 56, .inl (fun _ => 0)))] := hD
  have hK : va_K (dC, dI) cls [(cA_2, .int), (cA_4, .int), (cA_6, .int)] s := hK
  refine W.widen (k := 3) (n := 71) (Nat.le_of_ble_eq_true rfl) (Nat.le_of_ble_eq_true rfl) ?_
  refine va_putF (D := (dC, dI)) (ci := 9) (v := .ref a_5) (ty := (.array .int)) (C := RX9) (T := TX9) (N := 9) hx hb hq i_X9 tyX9 tyX9_ok nmX9 hown hK hP hD hS 0 rfl rfl 6 (by decide) (hq _ q_303) (fun _ h9 => h9) rfl hin rfl (by decide +kernel) rfl rfl (Nat.le_of_ble_eq_true rfl) dX9_init_25 (fun H locs hP hD hS => ?_)
  have hP : va_P (dC, dI) cls [(h0, .inr (9, [.null, .null, .null, .null, .ref a_1, .ref a_3, .ref a_5, .int 0, .int 0])), (a_1, .inl (cA_2, 7, .inl (fun _ => 0))), (a_3, .inl (cA_4, 8, .inl (fun _ => 0))), (a_5, .inl (cA_6, 56, .inl (fun _ => 0)))] H := hP
  have hD : va_D A [(h0, .inr (9, [.null, .null, .null, .null, .ref a_1, .ref a_3, .ref a_5, .int 0, .int 0])), (a_1, .inl (cA_2, 7, .inl (fun _ => 0))), (a_3, .inl (cA_4, 8, .inl (fun _ => 0))), (a_5, .inl (cA_6, 56, .inl (fun _ => 0)))] := hD
  refine lv_aload_n hx hb dX9_init_28 rfl (lv_at hl 0 rfl) ?_
  refine lv_iconst (v := (-1)) hx hb dX9_init_29 (by decide) ?_
  refine va_put (D := (dC, dI)) (ci := 9) (v := .int (-1)) (ty := .int) (C := RX9) (T := TX9) (N := 9) hx hb hq i_X9 tyX9 tyX9_ok nmX9 hown hK hP hD hS 0 rfl rfl 7 (by decide) (hq _ q_304) (fun _ h9 => h9) rfl (by decide +kernel) rfl rfl (Nat.le_of_ble_eq_true rfl) dX9_init_30 (fun H locs hP hD hS => ?_)
  have hP : va_P (dC, dI) cls [(h0, .inr (9, [.null, .null, .null, .null, .ref a_1, .ref a_3, .ref a_5, .int (-1), .int 0])), (a_1, .inl (cA_2, 7, .inl (fun _ => 0))), (a_3, .inl (cA_4, 8, .inl (fun _ => 0))), (a_5, .inl (cA_6, 56, .inl (fun _ => 0)))] H := hP
  have hD : va_D A [(h0, .inr (9, [.null, .null, .null, .null, .ref a_1, .ref a_3, .ref a_5, .int (-1), .int 0])), (a_1, .inl (cA_2, 7, .inl (fun _ => 0))), (a_3, .inl (cA_4, 8, .inl (fun _ => 0))), (a_5, .inl (cA_6, 56, .inl (fun _ => 0)))] := hD
  refine lv_aload_n hx hb dX9_init_33 rfl (lv_at hl 0 rfl) ?_
  refine lv_aload_n hx hb dX9_init_34 rfl (lv_at hl 1 rfl) ?_
  refine va_putF (D := (dC, dI)) (ci := 9) (v := .ref r0) (ty := (.object "NightfallVillage$Roles")) (C := RX9) (T := TX9) (N := 9) hx hb hq i_X9 tyX9 tyX9_ok nmX9 hown hK hP hD hS 0 rfl rfl 0 (by decide) (hq _ q_297) (fun _ h9 => h9) rfl hin rfl (by decide +kernel) rfl rfl (Nat.le_of_ble_eq_true rfl) dX9_init_35 (fun H locs hP hD hS => ?_)
  have hP : va_P (dC, dI) cls [(h0, .inr (9, [.ref r0, .null, .null, .null, .ref a_1, .ref a_3, .ref a_5, .int (-1), .int 0])), (a_1, .inl (cA_2, 7, .inl (fun _ => 0))), (a_3, .inl (cA_4, 8, .inl (fun _ => 0))), (a_5, .inl (cA_6, 56, .inl (fun _ => 0)))] H := hP
  have hD : va_D A [(h0, .inr (9, [.ref r0, .null, .null, .null, .ref a_1, .ref a_3, .ref a_5, .int (-1), .int 0])), (a_1, .inl (cA_2, 7, .inl (fun _ => 0))), (a_3, .inl (cA_4, 8, .inl (fun _ => 0))), (a_5, .inl (cA_6, 56, .inl (fun _ => 0)))] := hD
  refine lv_aload_n hx hb dX9_init_38 rfl (lv_at hl 0 rfl) ?_
  refine lv_aload_n hx hb dX9_init_39 rfl (lv_at hl 2 rfl) ?_
  refine va_putF (D := (dC, dI)) (ci := 9) (v := .ref d0) (ty := (.object "NightfallVillage$Deal")) (C := RX9) (T := TX9) (N := 9) hx hb hq i_X9 tyX9 tyX9_ok nmX9 hown hK hP hD hS 0 rfl rfl 1 (by decide) (hq _ q_298) (fun _ h9 => h9) rfl hin rfl (by decide +kernel) rfl rfl (Nat.le_of_ble_eq_true rfl) dX9_init_40 (fun H locs hP hD hS => ?_)
  have hP : va_P (dC, dI) cls [(h0, .inr (9, [.ref r0, .ref d0, .null, .null, .ref a_1, .ref a_3, .ref a_5, .int (-1), .int 0])), (a_1, .inl (cA_2, 7, .inl (fun _ => 0))), (a_3, .inl (cA_4, 8, .inl (fun _ => 0))), (a_5, .inl (cA_6, 56, .inl (fun _ => 0)))] H := hP
  have hD : va_D A [(h0, .inr (9, [.ref r0, .ref d0, .null, .null, .ref a_1, .ref a_3, .ref a_5, .int (-1), .int 0])), (a_1, .inl (cA_2, 7, .inl (fun _ => 0))), (a_3, .inl (cA_4, 8, .inl (fun _ => 0))), (a_5, .inl (cA_6, 56, .inl (fun _ => 0)))] := hD
  refine lv_aload_n hx hb dX9_init_43 rfl (lv_at hl 0 rfl) ?_
  refine lv_aload_n hx hb dX9_init_44 rfl (lv_at hl 3 rfl) ?_
  refine va_putF (D := (dC, dI)) (ci := 9) (v := .ref f0) (ty := (.object "NightfallVillage$Folk")) (C := RX9) (T := TX9) (N := 9) hx hb hq i_X9 tyX9 tyX9_ok nmX9 hown hK hP hD hS 0 rfl rfl 2 (by decide) (hq _ q_299) (fun _ h9 => h9) rfl hin rfl (by decide +kernel) rfl rfl (Nat.le_of_ble_eq_true rfl) dX9_init_45 (fun H locs hP hD hS => ?_)
  have hP : va_P (dC, dI) cls [(h0, .inr (9, [.ref r0, .ref d0, .ref f0, .null, .ref a_1, .ref a_3, .ref a_5, .int (-1), .int 0])), (a_1, .inl (cA_2, 7, .inl (fun _ => 0))), (a_3, .inl (cA_4, 8, .inl (fun _ => 0))), (a_5, .inl (cA_6, 56, .inl (fun _ => 0)))] H := hP
  have hD : va_D A [(h0, .inr (9, [.ref r0, .ref d0, .ref f0, .null, .ref a_1, .ref a_3, .ref a_5, .int (-1), .int 0])), (a_1, .inl (cA_2, 7, .inl (fun _ => 0))), (a_3, .inl (cA_4, 8, .inl (fun _ => 0))), (a_5, .inl (cA_6, 56, .inl (fun _ => 0)))] := hD
  refine lv_aload_n hx hb dX9_init_48 rfl (lv_at hl 0 rfl) ?_
  refine lv_aload hx hb dX9_init_49 (lv_at hl 4 rfl) ?_
  refine va_putF (D := (dC, dI)) (ci := 9) (v := .ref s0) (ty := (.object "NightfallVillage$Sights")) (C := RX9) (T := TX9) (N := 9) hx hb hq i_X9 tyX9 tyX9_ok nmX9 hown hK hP hD hS 0 rfl rfl 3 (by decide) (hq _ q_300) (fun _ h9 => h9) rfl hin rfl (by decide +kernel) rfl rfl (Nat.le_of_ble_eq_true rfl) dX9_init_51 (fun H locs hP hD hS => ?_)
  have hP : va_P (dC, dI) cls [(h0, .inr (9, [.ref r0, .ref d0, .ref f0, .ref s0, .ref a_1, .ref a_3, .ref a_5, .int (-1), .int 0])), (a_1, .inl (cA_2, 7, .inl (fun _ => 0))), (a_3, .inl (cA_4, 8, .inl (fun _ => 0))), (a_5, .inl (cA_6, 56, .inl (fun _ => 0)))] H := hP
  have hD : va_D A [(h0, .inr (9, [.ref r0, .ref d0, .ref f0, .ref s0, .ref a_1, .ref a_3, .ref a_5, .int (-1), .int 0])), (a_1, .inl (cA_2, 7, .inl (fun _ => 0))), (a_3, .inl (cA_4, 8, .inl (fun _ => 0))), (a_5, .inl (cA_6, 56, .inl (fun _ => 0)))] := hD
  refine W.widen (k := 3) (n := 71) (Nat.le_of_ble_eq_true rfl) (Nat.le_of_ble_eq_true rfl) ?_
  exact W.vret hx hb hr (fun t ht hW => ⟨⟨(), rfl, trivial, trivial⟩, hS.F ht⟩) hS.2.2 dX9_init_54
abbrev cX10_init : ByteArray := prog_1_method_1_code
def yX10_init : MethodName := ⟨RX10, "<init>", "()V"⟩
theorem dX10_init_0 : decode cX10_init 0 = .ok (.aload_n 0, 1) := by decide +kernel
theorem dX10_init_1 : decode cX10_init 1 = .ok (.invokespecial 1, 3) := by decide +kernel
theorem q_44 : (Cond.methodLink "NightfallVillage" 1 objectInit) ∈ tw := tw_in (i := 44) (by decide +kernel) (by decide +kernel)
theorem dX10_init_4 : decode cX10_init 4 = .ok (.aload_n 0, 1) := by decide +kernel
theorem dX10_init_5 : decode cX10_init 5 = .ok (.new 7, 3) := by decide +kernel
theorem q_47 : (Cond.classLink "NightfallVillage" 7 "NightfallVillage$Roles") ∈ tw := tw_in (i := 47) (by decide +kernel) (by decide +kernel)
theorem q_48 : (Cond.instantiable "NightfallVillage$Roles" 8) ∈ tw := tw_in (i := 48) (by decide +kernel) (by decide +kernel)
theorem q_2 : (Cond.initialized "NightfallVillage$Roles") ∈ tw := tw_in (i := 2) (by decide +kernel) (by decide +kernel)
theorem dX10_init_8 : decode cX10_init 8 = .ok (.dup, 1) := by decide +kernel
theorem dX10_init_9 : decode cX10_init 9 = .ok (.invokespecial 9, 3) := by decide +kernel
theorem q_51 : (Cond.code yX7_init cX7_init 1 none) ∈ tw := tw_in (i := 51) (by decide +kernel) (by decide +kernel)
theorem q_49 : (Cond.methodLinkNest "NightfallVillage" 9 yX7_init "NightfallVillage") ∈ tw := tw_in (i := 49) (by decide +kernel) (by decide +kernel)
theorem q_50 : (Cond.instanceMethod yX7_init) ∈ tw := tw_in (i := 50) (by decide +kernel) (by decide +kernel)
theorem dX10_init_12 : decode cX10_init 12 = .ok (.putfield 10, 3) := by decide +kernel
theorem q_326 : (Cond.fieldLink "NightfallVillage" 10 "NightfallVillage" "roles" "LNightfallVillage$Roles;") ∈ tw := tw_in (i := 326) (by decide +kernel) (by decide +kernel)
theorem dX10_init_15 : decode cX10_init 15 = .ok (.aload_n 0, 1) := by decide +kernel
theorem dX10_init_16 : decode cX10_init 16 = .ok (.new 16, 3) := by decide +kernel
theorem q_83 : (Cond.classLink "NightfallVillage" 16 "NightfallVillage$Deal") ∈ tw := tw_in (i := 83) (by decide +kernel) (by decide +kernel)
theorem q_84 : (Cond.instantiable "NightfallVillage$Deal" 6) ∈ tw := tw_in (i := 84) (by decide +kernel) (by decide +kernel)
theorem q_3 : (Cond.initialized "NightfallVillage$Deal") ∈ tw := tw_in (i := 3) (by decide +kernel) (by decide +kernel)
theorem dX10_init_19 : decode cX10_init 19 = .ok (.dup, 1) := by decide +kernel
theorem dX10_init_20 : decode cX10_init 20 = .ok (.invokespecial 18, 3) := by decide +kernel
theorem q_87 : (Cond.code yX2_init cX2_init 1 none) ∈ tw := tw_in (i := 87) (by decide +kernel) (by decide +kernel)
theorem q_85 : (Cond.methodLinkNest "NightfallVillage" 18 yX2_init "NightfallVillage") ∈ tw := tw_in (i := 85) (by decide +kernel) (by decide +kernel)
theorem q_86 : (Cond.instanceMethod yX2_init) ∈ tw := tw_in (i := 86) (by decide +kernel) (by decide +kernel)
theorem dX10_init_23 : decode cX10_init 23 = .ok (.putfield 19, 3) := by decide +kernel
theorem q_327 : (Cond.fieldLink "NightfallVillage" 19 "NightfallVillage" "deal" "LNightfallVillage$Deal;") ∈ tw := tw_in (i := 327) (by decide +kernel) (by decide +kernel)
theorem dX10_init_26 : decode cX10_init 26 = .ok (.aload_n 0, 1) := by decide +kernel
theorem dX10_init_27 : decode cX10_init 27 = .ok (.new 23, 3) := by decide +kernel
theorem q_111 : (Cond.classLink "NightfallVillage" 23 "NightfallVillage$Game") ∈ tw := tw_in (i := 111) (by decide +kernel) (by decide +kernel)
theorem q_112 : (Cond.instantiable "NightfallVillage$Game" 7) ∈ tw := tw_in (i := 112) (by decide +kernel) (by decide +kernel)
theorem q_4 : (Cond.initialized "NightfallVillage$Game") ∈ tw := tw_in (i := 4) (by decide +kernel) (by decide +kernel)
theorem dX10_init_30 : decode cX10_init 30 = .ok (.dup, 1) := by decide +kernel
theorem dX10_init_31 : decode cX10_init 31 = .ok (.aload_n 0, 1) := by decide +kernel
theorem dX10_init_32 : decode cX10_init 32 = .ok (.getfield 10, 3) := by decide +kernel
theorem dX10_init_35 : decode cX10_init 35 = .ok (.aload_n 0, 1) := by decide +kernel
theorem dX10_init_36 : decode cX10_init 36 = .ok (.getfield 19, 3) := by decide +kernel
theorem dX10_init_39 : decode cX10_init 39 = .ok (.invokespecial 25, 3) := by decide +kernel
theorem q_115 : (Cond.code yX4_init cX4_init 3 none) ∈ tw := tw_in (i := 115) (by decide +kernel) (by decide +kernel)
theorem q_113 : (Cond.methodLink "NightfallVillage" 25 yX4_init) ∈ tw := tw_in (i := 113) (by decide +kernel) (by decide +kernel)
theorem q_114 : (Cond.instanceMethod yX4_init) ∈ tw := tw_in (i := 114) (by decide +kernel) (by decide +kernel)
theorem dX10_init_42 : decode cX10_init 42 = .ok (.putfield 28, 3) := by decide +kernel
theorem q_328 : (Cond.fieldLink "NightfallVillage" 28 "NightfallVillage" "game" "LNightfallVillage$Game;") ∈ tw := tw_in (i := 328) (by decide +kernel) (by decide +kernel)
theorem dX10_init_45 : decode cX10_init 45 = .ok (.aload_n 0, 1) := by decide +kernel
theorem dX10_init_46 : decode cX10_init 46 = .ok (.new 23, 3) := by decide +kernel
theorem dX10_init_49 : decode cX10_init 49 = .ok (.dup, 1) := by decide +kernel
theorem dX10_init_50 : decode cX10_init 50 = .ok (.aload_n 0, 1) := by decide +kernel
theorem dX10_init_51 : decode cX10_init 51 = .ok (.getfield 10, 3) := by decide +kernel
theorem dX10_init_54 : decode cX10_init 54 = .ok (.aload_n 0, 1) := by decide +kernel
theorem dX10_init_55 : decode cX10_init 55 = .ok (.getfield 19, 3) := by decide +kernel
theorem dX10_init_58 : decode cX10_init 58 = .ok (.invokespecial 25, 3) := by decide +kernel
theorem dX10_init_61 : decode cX10_init 61 = .ok (.putfield 32, 3) := by decide +kernel
theorem q_329 : (Cond.fieldLink "NightfallVillage" 32 "NightfallVillage" "otherGame" "LNightfallVillage$Game;") ∈ tw := tw_in (i := 329) (by decide +kernel) (by decide +kernel)
theorem dX10_init_64 : decode cX10_init 64 = .ok (.aload_n 0, 1) := by decide +kernel
theorem dX10_init_65 : decode cX10_init 65 = .ok (.new 35, 3) := by decide +kernel
theorem q_237 : (Cond.classLink "NightfallVillage" 35 "NightfallVillage$History") ∈ tw := tw_in (i := 237) (by decide +kernel) (by decide +kernel)
theorem q_238 : (Cond.instantiable "NightfallVillage$History" 2) ∈ tw := tw_in (i := 238) (by decide +kernel) (by decide +kernel)
theorem q_8 : (Cond.initialized "NightfallVillage$History") ∈ tw := tw_in (i := 8) (by decide +kernel) (by decide +kernel)
theorem dX10_init_68 : decode cX10_init 68 = .ok (.dup, 1) := by decide +kernel
theorem dX10_init_69 : decode cX10_init 69 = .ok (.invokespecial 37, 3) := by decide +kernel
theorem q_241 : (Cond.code yX5_init cX5_init 1 none) ∈ tw := tw_in (i := 241) (by decide +kernel) (by decide +kernel)
theorem q_239 : (Cond.methodLinkNest "NightfallVillage" 37 yX5_init "NightfallVillage") ∈ tw := tw_in (i := 239) (by decide +kernel) (by decide +kernel)
theorem q_240 : (Cond.instanceMethod yX5_init) ∈ tw := tw_in (i := 240) (by decide +kernel) (by decide +kernel)
theorem dX10_init_72 : decode cX10_init 72 = .ok (.putfield 38, 3) := by decide +kernel
theorem q_330 : (Cond.fieldLink "NightfallVillage" 38 "NightfallVillage" "history" "LNightfallVillage$History;") ∈ tw := tw_in (i := 330) (by decide +kernel) (by decide +kernel)
theorem dX10_init_75 : decode cX10_init 75 = .ok (.aload_n 0, 1) := by decide +kernel
theorem dX10_init_76 : decode cX10_init 76 = .ok (.new 42, 3) := by decide +kernel
theorem q_251 : (Cond.classLink "NightfallVillage" 42 "NightfallVillage$Sights") ∈ tw := tw_in (i := 251) (by decide +kernel) (by decide +kernel)
theorem q_252 : (Cond.instantiable "NightfallVillage$Sights" 4) ∈ tw := tw_in (i := 252) (by decide +kernel) (by decide +kernel)
theorem q_9 : (Cond.initialized "NightfallVillage$Sights") ∈ tw := tw_in (i := 9) (by decide +kernel) (by decide +kernel)
theorem dX10_init_79 : decode cX10_init 79 = .ok (.dup, 1) := by decide +kernel
theorem dX10_init_80 : decode cX10_init 80 = .ok (.invokespecial 44, 3) := by decide +kernel
theorem q_255 : (Cond.code yX8_init cX8_init 1 none) ∈ tw := tw_in (i := 255) (by decide +kernel) (by decide +kernel)
theorem q_253 : (Cond.methodLinkNest "NightfallVillage" 44 yX8_init "NightfallVillage") ∈ tw := tw_in (i := 253) (by decide +kernel) (by decide +kernel)
theorem q_254 : (Cond.instanceMethod yX8_init) ∈ tw := tw_in (i := 254) (by decide +kernel) (by decide +kernel)
theorem dX10_init_83 : decode cX10_init 83 = .ok (.putfield 45, 3) := by decide +kernel
theorem q_331 : (Cond.fieldLink "NightfallVillage" 45 "NightfallVillage" "sights" "LNightfallVillage$Sights;") ∈ tw := tw_in (i := 331) (by decide +kernel) (by decide +kernel)
theorem dX10_init_86 : decode cX10_init 86 = .ok (.aload_n 0, 1) := by decide +kernel
theorem dX10_init_87 : decode cX10_init 87 = .ok (.new 49, 3) := by decide +kernel
theorem q_271 : (Cond.classLink "NightfallVillage" 49 "NightfallVillage$Claims") ∈ tw := tw_in (i := 271) (by decide +kernel) (by decide +kernel)
theorem q_272 : (Cond.instantiable "NightfallVillage$Claims" 4) ∈ tw := tw_in (i := 272) (by decide +kernel) (by decide +kernel)
theorem q_10 : (Cond.initialized "NightfallVillage$Claims") ∈ tw := tw_in (i := 10) (by decide +kernel) (by decide +kernel)
theorem dX10_init_90 : decode cX10_init 90 = .ok (.dup, 1) := by decide +kernel
theorem dX10_init_91 : decode cX10_init 91 = .ok (.invokespecial 51, 3) := by decide +kernel
theorem q_275 : (Cond.code yX0_init cX0_init 1 none) ∈ tw := tw_in (i := 275) (by decide +kernel) (by decide +kernel)
theorem q_273 : (Cond.methodLinkNest "NightfallVillage" 51 yX0_init "NightfallVillage") ∈ tw := tw_in (i := 273) (by decide +kernel) (by decide +kernel)
theorem q_274 : (Cond.instanceMethod yX0_init) ∈ tw := tw_in (i := 274) (by decide +kernel) (by decide +kernel)
theorem dX10_init_94 : decode cX10_init 94 = .ok (.putfield 52, 3) := by decide +kernel
theorem q_332 : (Cond.fieldLink "NightfallVillage" 52 "NightfallVillage" "claims" "LNightfallVillage$Claims;") ∈ tw := tw_in (i := 332) (by decide +kernel) (by decide +kernel)
theorem dX10_init_97 : decode cX10_init 97 = .ok (.aload_n 0, 1) := by decide +kernel
theorem dX10_init_98 : decode cX10_init 98 = .ok (.new 56, 3) := by decide +kernel
theorem q_291 : (Cond.classLink "NightfallVillage" 56 "NightfallVillage$Worlds") ∈ tw := tw_in (i := 291) (by decide +kernel) (by decide +kernel)
theorem q_292 : (Cond.instantiable "NightfallVillage$Worlds" 9) ∈ tw := tw_in (i := 292) (by decide +kernel) (by decide +kernel)
theorem q_11 : (Cond.initialized "NightfallVillage$Worlds") ∈ tw := tw_in (i := 11) (by decide +kernel) (by decide +kernel)
theorem dX10_init_101 : decode cX10_init 101 = .ok (.dup, 1) := by decide +kernel
theorem dX10_init_102 : decode cX10_init 102 = .ok (.aload_n 0, 1) := by decide +kernel
theorem dX10_init_103 : decode cX10_init 103 = .ok (.getfield 10, 3) := by decide +kernel
theorem dX10_init_106 : decode cX10_init 106 = .ok (.aload_n 0, 1) := by decide +kernel
theorem dX10_init_107 : decode cX10_init 107 = .ok (.getfield 19, 3) := by decide +kernel
theorem dX10_init_110 : decode cX10_init 110 = .ok (.aload_n 0, 1) := by decide +kernel
theorem dX10_init_111 : decode cX10_init 111 = .ok (.getfield 28, 3) := by decide +kernel
theorem dX10_init_114 : decode cX10_init 114 = .ok (.getfield 58, 3) := by decide +kernel
theorem q_209 : (Cond.fieldLinkNest "NightfallVillage" 58 "NightfallVillage$Game" "folk" "LNightfallVillage$Folk;" "NightfallVillage") ∈ tw := tw_in (i := 209) (by decide +kernel) (by decide +kernel)
theorem dX10_init_117 : decode cX10_init 117 = .ok (.aload_n 0, 1) := by decide +kernel
theorem dX10_init_118 : decode cX10_init 118 = .ok (.getfield 45, 3) := by decide +kernel
theorem dX10_init_121 : decode cX10_init 121 = .ok (.invokespecial 62, 3) := by decide +kernel
theorem q_295 : (Cond.code yX9_init cX9_init 5 none) ∈ tw := tw_in (i := 295) (by decide +kernel) (by decide +kernel)
theorem q_293 : (Cond.methodLink "NightfallVillage" 62 yX9_init) ∈ tw := tw_in (i := 293) (by decide +kernel) (by decide +kernel)
theorem q_294 : (Cond.instanceMethod yX9_init) ∈ tw := tw_in (i := 294) (by decide +kernel) (by decide +kernel)
theorem dX10_init_124 : decode cX10_init 124 = .ok (.putfield 65, 3) := by decide +kernel
theorem q_333 : (Cond.fieldLink "NightfallVillage" 65 "NightfallVillage" "fitting" "LNightfallVillage$Worlds;") ∈ tw := tw_in (i := 333) (by decide +kernel) (by decide +kernel)
theorem dX10_init_127 : decode cX10_init 127 = .ok (.return_, 1) := by decide +kernel
set_option maxHeartbeats 4000000 in
set_option maxRecDepth 100000 in
theorem c_X_init (l : Launch) (hst : l.stackTraces = false) (tE : Nat) (adK adV : Nat → Nat) (dC : Nat → ClassId) (dI : Nat → Nat → Nat) (h0 : Nat) (sz : Nat) : Met l yX10_init (Cond.code yX10_init cX10_init 1 none :: tw) ({ frames := 3, cells := 70, slots := 4775, locals := 56 }) (va_Pc [.ref h0] (pre tE adK adV (dC, dI) [(h0, .inr (10, [.null, .null, .null, .null, .null, .null, .null, .null]))] [] sz)) (va_Qv (fun (_ : Unit) => True) (fun (_ : Unit) (t : State) => ∃ (r0 : Nat) (d0 : Nat) (g0 : Nat) (g1 : Nat) (y1 : Nat) (s1 : Nat) (l1 : Nat) (w1 : Nat) (a1 : Nat) (a2 : Nat) (a3 : Nat) (a4 : Nat) (a5 : Nat) (a6 : Nat) (a7 : Nat) (k1 : ClassId) (k2 : ClassId) (k3 : ClassId) (k4 : ClassId) (k5 : ClassId) (k6 : ClassId) (k7 : ClassId) (b1 : Nat) (b2 : Nat) (b3 : Nat) (f0 : Nat) (n0 : Nat) (y0 : Nat) (z1 : Nat) (z2 : Nat) (z3 : Nat) (z4 : Nat) (z5 : Nat), va_P (dC, dI) cls [(h0, .inr (10, [.ref r0, .ref d0, .ref g0, .ref g1, .ref y1, .ref s1, .ref l1, .ref w1])), (r0, .inr (7, [.ref a1, .ref a2, .ref a3, .ref a4, .ref a5, .ref a6, .ref a7, .int 0])), (a1, .inl (k1, 8, .inl (fun _ => 0))), (a2, .inl (k2, 8, .inl (fun _ => 0))), (a3, .inl (k3, 8, .inl (fun _ => 0))), (a4, .inl (k4, 8, .inl (fun _ => 0))), (a5, .inl (k5, 8, .inl (fun _ => 0))), (a6, .inl (k6, 8, .inl (fun _ => 0))), (a7, .inl (k7, 8, .inl (fun _ => 0))), (d0, .inr (2, [.ref b1, .ref b2, .ref b3, .int 0, .int (-1), .int (-1)])), (g0, .inr (4, [.ref f0, .ref n0, .ref y0, .int 0, .int 0, .int 0, .int 45])), (f0, .inr (3, [.ref r0, .ref d0, .ref z1, .ref z2, .ref z3, .ref z4, .ref z5, .int 0, .int 0]))] t.heap ∧ va_K (dC, dI) cls [(k1, .char), (k2, .char), (k3, .int), (k4, .boolean), (k5, .boolean), (k6, .boolean), (k7, .int)] t ∧ va_D (va_A [(h0, .inr (10, [.null, .null, .null, .null, .null, .null, .null, .null]))] sz) [(h0, .inr (10, [.ref r0, .ref d0, .ref g0, .ref g1, .ref y1, .ref s1, .ref l1, .ref w1])), (r0, .inr (7, [.ref a1, .ref a2, .ref a3, .ref a4, .ref a5, .ref a6, .ref a7, .int 0])), (a1, .inl (k1, 8, .inl (fun _ => 0))), (a2, .inl (k2, 8, .inl (fun _ => 0))), (a3, .inl (k3, 8, .inl (fun _ => 0))), (a4, .inl (k4, 8, .inl (fun _ => 0))), (a5, .inl (k5, 8, .inl (fun _ => 0))), (a6, .inl (k6, 8, .inl (fun _ => 0))), (a7, .inl (k7, 8, .inl (fun _ => 0))), (d0, .inr (2, [.ref b1, .ref b2, .ref b3, .int 0, .int (-1), .int (-1)])), (g0, .inr (4, [.ref f0, .ref n0, .ref y0, .int 0, .int 0, .int 0, .int 45])), (f0, .inr (3, [.ref r0, .ref d0, .ref z1, .ref z2, .ref z3, .ref z4, .ref z5, .int 0, .int 0]))]) (va_A [(h0, .inr (10, [.null, .null, .null, .null, .null, .null, .null, .null]))] sz)) 70 4775 (va_A [(h0, .inr (10, [.null, .null, .null, .null, .null, .null, .null, .null]))] sz) := by
  refine Met.ofW (cc := cX10_init) (maxL := 1) (ret := none) (by decide) rfl ?_
  intro p e s m args below meth c s₁ B hml hv
  obtain ⟨rfl, hsz, hP, hK, hD0, ham⟩ := hv
  have hx := B.exec
  have hb := B.bytes
  have hr := B.returns
  have hts := atoms_spec B.pre
  have hq : ∀ w ∈ tw, w.before _ s = true := fun w h => hts w (List.mem_cons_of_mem _ h)
  have hown : s.vm.findClass RX10 = some m.cls := findClass_of_methodNamed B.named
  have hlocks := B.notSynchronized
  have hin : meth.name = "<init>" := (name_of_methodNamed B.named B.method).1
  subst hsz
  have hD := hD0.self (sz := s.heap.size)
  generalize hAe : va_A [(h0, .inr (10, [.null, .null, .null, .null, .null, .null, .null, .null]))] s.heap.size = A at hD ham ⊢
  have hA : ∀ q : Nat, s.heap.size ≤ q → A q := fun q h => by rw [← hAe]; exact Or.inr h
  have hS : va_S A s.heap s.heap [] := va_S.rf
  have hP : va_P (dC, dI) cls [(h0, .inr (10, [.null, .null, .null, .null, .null, .null, .null, .null]))] s.heap := hP
  have hl := lv_entry ([.ref h0]) (n := 1) (Nat.le_of_ble_eq_true rfl)
  rw [lg_entry_eq]
  generalize (lg_sl ([.ref h0]) ++ List.replicate (1 - (lg_sl ([.ref h0])).length) Slot.unset).toArray = ls at hl ⊢
  have hl : lv_has ls 1 [(0, .ref h0)] := hl
  refine lv_aload_n hx hb dX10_init_0 rfl (lv_at hl 0 rfl) ?_
  refine W.objInit hx hb hown (hq _ q_44) (hq _ q_45) (hq _ q_46) rfl (by rw [hml]; exact hl.1) rfl dX10_init_1 (Nat.le_of_ble_eq_true rfl) (Nat.le_of_ble_eq_true rfl) ?_
  refine W.eq (g2 := F0 m 4 ls []) rfl ?_
  refine lv_aload_n hx hb dX10_init_4 rfl (lv_at hl 0 rfl) ?_
  refine va_new (ci := 7) (fs := [.null, .null, .null, .null, .null, .null, .null, .int 0]) (C := RX7) (T := TX7) (N := 8) hx hb hq i_X7 tyX7 tyX7_ok hown (hq _ q_47) (hq _ q_48) (hq _ q_2) hK hP hD hS hA rfl (fun j hj => by rcases (show j = 0 ∨ j = 1 ∨ j = 2 ∨ j = 3 ∨ j = 4 ∨ j = 5 ∨ j = 6 ∨ j = 7 by omega) with rfl | rfl | rfl | rfl | rfl | rfl | rfl | rfl <;> rfl) (Nat.le_of_ble_eq_true rfl) (Nat.le_of_ble_eq_true rfl) dX10_init_5 (fun a_1 H hP hD hS => ?_)
  have hP : va_P (dC, dI) cls [(h0, .inr (10, [.null, .null, .null, .null, .null, .null, .null, .null])), (a_1, .inr (7, [.null, .null, .null, .null, .null, .null, .null, .int 0]))] H := hP
  have hD : va_D A [(h0, .inr (10, [.null, .null, .null, .null, .null, .null, .null, .null])), (a_1, .inr (7, [.null, .null, .null, .null, .null, .null, .null, .int 0]))] := hD
  refine W.widen (k := 1) (n := 8) (Nat.le_of_ble_eq_true rfl) (Nat.le_of_ble_eq_true rfl) ?_
  refine lv_dup hx hb dX10_init_8 rfl ?_
  have hPc := hP.sub (ws' := [(a_1, .inr (7, [.null, .null, .null, .null, .null, .null, .null, .int 0]))]) [1] rfl
  have hKc := hK.sub (tys' := []) [] rfl
  have hDc := hD.sub (ws' := [(a_1, .inr (7, [.null, .null, .null, .null, .null, .null, .null, .int 0]))]) [1] (by decide) rfl
  have hFc := va_free (wc := [(a_1, .inr (7, [.null, .null, .null, .null, .null, .null, .null, .int 0]))]) hD hS hA [1] rfl
  refine va_callv (va_runIN (As := []) (rest := [.ref a_1, .ref h0]) ⟨hx, hb, hml, hown, hq⟩ (c_Roles_init l hst tE adK adV dC dI a_1 H.size) (tcIN 0 hq q_51 q_2 q_49 q_50 rfl rfl rfl (by decide +kernel) ⟨Nat.le_of_ble_eq_true rfl, Nat.le_of_ble_eq_true rfl⟩) (pre.S (pre.of hPc hDc hKc ham hS hFc)) rfl rfl hl.1 rfl (lv_room (Nat.le_of_ble_eq_true rfl)) dX10_init_9 ⟨Nat.le_of_ble_eq_true rfl, Nat.le_of_ble_eq_true rfl⟩) hS (fun q _ h => hFc q h) hFc (fun u t H1 locs ht hvm hw hB hz1 hk1 hS => ?_)
  obtain ⟨q1_3, q2_4, q3_5, q4_6, q5_7, q6_8, q7_9, k1_10, k2_11, k3_12, k4_13, k5_14, k6_15, k7_16, hP1, hK1, hD1⟩ := hB
  rw [ht] at hP1
  have hK1 := va_K.moved hvm.symm hK1
  obtain ⟨hP, hD⟩ := va_join (wr := [(h0, .inr (10, [.null, .null, .null, .null, .null, .null, .null, .null]))]) (w1 := [(a_1, .inr (7, [.ref q1_3, .ref q2_4, .ref q3_5, .ref q4_6, .ref q5_7, .ref q6_8, .ref q7_9, .int 0])), (q1_3, .inl (k1_10, 8, .inl (fun _ => 0))), (q2_4, .inl (k2_11, 8, .inl (fun _ => 0))), (q3_5, .inl (k3_12, 8, .inl (fun _ => 0))), (q4_6, .inl (k4_13, 8, .inl (fun _ => 0))), (q5_7, .inl (k5_14, 8, .inl (fun _ => 0))), (q6_8, .inl (k6_15, 8, .inl (fun _ => 0))), (q7_9, .inl (k7_16, 8, .inl (fun _ => 0)))]) (wc := [(a_1, .inr (7, [.null, .null, .null, .null, .null, .null, .null, .int 0]))]) hP hD [1] [0] rfl rfl (by decide) (by decide) hk1 hFc hP1 hD1
  have hK := (hK.sub (tys' := []) [] rfl).app hK1
  generalize H1 = H at hP hS ⊢
  have hP : va_P (dC, dI) cls [(h0, .inr (10, [.null, .null, .null, .null, .null, .null, .null, .null])), (a_1, .inr (7, [.ref q1_3, .ref q2_4, .ref q3_5, .ref q4_6, .ref q5_7, .ref q6_8, .ref q7_9, .int 0])), (q1_3, .inl (k1_10, 8, .inl (fun _ => 0))), (q2_4, .inl (k2_11, 8, .inl (fun _ => 0))), (q3_5, .inl (k3_12, 8, .inl (fun _ => 0))), (q4_6, .inl (k4_13, 8, .inl (fun _ => 0))), (q5_7, .inl (k5_14, 8, .inl (fun _ => 0))), (q6_8, .inl (k6_15, 8, .inl (fun _ => 0))), (q7_9, .inl (k7_16, 8, .inl (fun _ => 0)))] H := hP
  have hD : va_D A [(h0, .inr (10, [.null, .null, .null, .null, .null, .null, .null, .null])), (a_1, .inr (7, [.ref q1_3, .ref q2_4, .ref q3_5, .ref q4_6, .ref q5_7, .ref q6_8, .ref q7_9, .int 0])), (q1_3, .inl (k1_10, 8, .inl (fun _ => 0))), (q2_4, .inl (k2_11, 8, .inl (fun _ => 0))), (q3_5, .inl (k3_12, 8, .inl (fun _ => 0))), (q4_6, .inl (k4_13, 8, .inl (fun _ => 0))), (q5_7, .inl (k5_14, 8, .inl (fun _ => 0))), (q6_8, .inl (k6_15, 8, .inl (fun _ => 0))), (q7_9, .inl (k7_16, 8, .inl (fun _ => 0)))] := hD
  have hK : va_K (dC, dI) cls [(k1_10, .char), (k2_11, .char), (k3_12, .int), (k4_13, .boolean), (k5_14, .boolean), (k6_15, .boolean), (k7_16, .int)] s := hK
  refine W.widen (k := 8) (n := 64) (Nat.le_of_ble_eq_true rfl) (Nat.le_of_ble_eq_true rfl) ?_
  refine va_putF (D := (dC, dI)) (ci := 10) (v := .ref a_1) (ty := (.object "NightfallVillage$Roles")) (C := RX10) (T := TX10) (N := 8) hx hb hq i_X10 tyX10 tyX10_ok nmX10 hown hK hP hD hS 0 rfl rfl 0 (by decide) (hq _ q_326) (fun _ h9 => h9) rfl hin rfl (by decide +kernel) rfl rfl (Nat.le_of_ble_eq_true rfl) dX10_init_12 (fun H locs hP hD hS => ?_)
  have hP : va_P (dC, dI) cls [(h0, .inr (10, [.ref a_1, .null, .null, .null, .null, .null, .null, .null])), (a_1, .inr (7, [.ref q1_3, .ref q2_4, .ref q3_5, .ref q4_6, .ref q5_7, .ref q6_8, .ref q7_9, .int 0])), (q1_3, .inl (k1_10, 8, .inl (fun _ => 0))), (q2_4, .inl (k2_11, 8, .inl (fun _ => 0))), (q3_5, .inl (k3_12, 8, .inl (fun _ => 0))), (q4_6, .inl (k4_13, 8, .inl (fun _ => 0))), (q5_7, .inl (k5_14, 8, .inl (fun _ => 0))), (q6_8, .inl (k6_15, 8, .inl (fun _ => 0))), (q7_9, .inl (k7_16, 8, .inl (fun _ => 0)))] H := hP
  have hD : va_D A [(h0, .inr (10, [.ref a_1, .null, .null, .null, .null, .null, .null, .null])), (a_1, .inr (7, [.ref q1_3, .ref q2_4, .ref q3_5, .ref q4_6, .ref q5_7, .ref q6_8, .ref q7_9, .int 0])), (q1_3, .inl (k1_10, 8, .inl (fun _ => 0))), (q2_4, .inl (k2_11, 8, .inl (fun _ => 0))), (q3_5, .inl (k3_12, 8, .inl (fun _ => 0))), (q4_6, .inl (k4_13, 8, .inl (fun _ => 0))), (q5_7, .inl (k5_14, 8, .inl (fun _ => 0))), (q6_8, .inl (k6_15, 8, .inl (fun _ => 0))), (q7_9, .inl (k7_16, 8, .inl (fun _ => 0)))] := hD
  refine lv_aload_n hx hb dX10_init_15 rfl (lv_at hl 0 rfl) ?_
  refine va_new (ci := 2) (fs := [.null, .null, .null, .int 0, .int 0, .int 0]) (C := RX2) (T := TX2) (N := 6) hx hb hq i_X2 tyX2 tyX2_ok hown (hq _ q_83) (hq _ q_84) (hq _ q_3) hK hP hD hS hA rfl (fun j hj => by rcases (show j = 0 ∨ j = 1 ∨ j = 2 ∨ j = 3 ∨ j = 4 ∨ j = 5 by omega) with rfl | rfl | rfl | rfl | rfl | rfl <;> rfl) (Nat.le_of_ble_eq_true rfl) (Nat.le_of_ble_eq_true rfl) dX10_init_16 (fun a_17 H hP hD hS => ?_)
  have hP : va_P (dC, dI) cls [(h0, .inr (10, [.ref a_1, .null, .null, .null, .null, .null, .null, .null])), (a_1, .inr (7, [.ref q1_3, .ref q2_4, .ref q3_5, .ref q4_6, .ref q5_7, .ref q6_8, .ref q7_9, .int 0])), (q1_3, .inl (k1_10, 8, .inl (fun _ => 0))), (q2_4, .inl (k2_11, 8, .inl (fun _ => 0))), (q3_5, .inl (k3_12, 8, .inl (fun _ => 0))), (q4_6, .inl (k4_13, 8, .inl (fun _ => 0))), (q5_7, .inl (k5_14, 8, .inl (fun _ => 0))), (q6_8, .inl (k6_15, 8, .inl (fun _ => 0))), (q7_9, .inl (k7_16, 8, .inl (fun _ => 0))), (a_17, .inr (2, [.null, .null, .null, .int 0, .int 0, .int 0]))] H := hP
  have hD : va_D A [(h0, .inr (10, [.ref a_1, .null, .null, .null, .null, .null, .null, .null])), (a_1, .inr (7, [.ref q1_3, .ref q2_4, .ref q3_5, .ref q4_6, .ref q5_7, .ref q6_8, .ref q7_9, .int 0])), (q1_3, .inl (k1_10, 8, .inl (fun _ => 0))), (q2_4, .inl (k2_11, 8, .inl (fun _ => 0))), (q3_5, .inl (k3_12, 8, .inl (fun _ => 0))), (q4_6, .inl (k4_13, 8, .inl (fun _ => 0))), (q5_7, .inl (k5_14, 8, .inl (fun _ => 0))), (q6_8, .inl (k6_15, 8, .inl (fun _ => 0))), (q7_9, .inl (k7_16, 8, .inl (fun _ => 0))), (a_17, .inr (2, [.null, .null, .null, .int 0, .int 0, .int 0]))] := hD
  refine W.widen (k := 9) (n := 70) (Nat.le_of_ble_eq_true rfl) (Nat.le_of_ble_eq_true rfl) ?_
  refine lv_dup hx hb dX10_init_19 rfl ?_
  have hPc := hP.sub (ws' := [(a_17, .inr (2, [.null, .null, .null, .int 0, .int 0, .int 0]))]) [9] rfl
  have hKc := hK.sub (tys' := []) [] rfl
  have hDc := hD.sub (ws' := [(a_17, .inr (2, [.null, .null, .null, .int 0, .int 0, .int 0]))]) [9] (by decide) rfl
  have hFc := va_free (wc := [(a_17, .inr (2, [.null, .null, .null, .int 0, .int 0, .int 0]))]) hD hS hA [9] rfl
  refine va_callv (va_runIN (As := []) (rest := [.ref a_17, .ref h0]) ⟨hx, hb, hml, hown, hq⟩ (c_Deal_init l hst tE adK adV dC dI a_17 H.size) (tcIN 0 hq q_87 q_3 q_85 q_86 rfl rfl rfl (by decide +kernel) ⟨Nat.le_of_ble_eq_true rfl, Nat.le_of_ble_eq_true rfl⟩) (pre.S (pre.of hPc hDc hKc ham hS hFc)) rfl rfl hl.1 rfl (lv_room (Nat.le_of_ble_eq_true rfl)) dX10_init_20 ⟨Nat.le_of_ble_eq_true rfl, Nat.le_of_ble_eq_true rfl⟩) hS (fun q _ h => hFc q h) hFc (fun u t H1 locs ht hvm hw hB hz1 hk1 hS => ?_)
  obtain ⟨q1_19, q2_20, q3_21, hP1, hK1, hD1⟩ := hB
  rw [ht] at hP1
  have hK1 := va_K.moved hvm.symm hK1
  obtain ⟨hP, hD⟩ := va_join (wr := [(h0, .inr (10, [.ref a_1, .null, .null, .null, .null, .null, .null, .null])), (a_1, .inr (7, [.ref q1_3, .ref q2_4, .ref q3_5, .ref q4_6, .ref q5_7, .ref q6_8, .ref q7_9, .int 0])), (q1_3, .inl (k1_10, 8, .inl (fun _ => 0))), (q2_4, .inl (k2_11, 8, .inl (fun _ => 0))), (q3_5, .inl (k3_12, 8, .inl (fun _ => 0))), (q4_6, .inl (k4_13, 8, .inl (fun _ => 0))), (q5_7, .inl (k5_14, 8, .inl (fun _ => 0))), (q6_8, .inl (k6_15, 8, .inl (fun _ => 0))), (q7_9, .inl (k7_16, 8, .inl (fun _ => 0)))]) (w1 := [(a_17, .inr (2, [.ref q1_19, .ref q2_20, .ref q3_21, .int 0, .int (-1), .int (-1)]))]) (wc := [(a_17, .inr (2, [.null, .null, .null, .int 0, .int 0, .int 0]))]) hP hD [9] [0, 1, 2, 3, 4, 5, 6, 7, 8] rfl rfl (by decide) (by decide) hk1 hFc hP1 hD1
  have hK := (hK.sub (tys' := [(k1_10, .char), (k2_11, .char), (k3_12, .int), (k4_13, .boolean), (k5_14, .boolean), (k6_15, .boolean), (k7_16, .int)]) [0, 1, 2, 3, 4, 5, 6] rfl).app hK1
  generalize H1 = H at hP hS ⊢
  have hP : va_P (dC, dI) cls [(h0, .inr (10, [.ref a_1, .null, .null, .null, .null, .null, .null, .null])), (a_1, .inr (7, [.ref q1_3, .ref q2_4, .ref q3_5, .ref q4_6, .ref q5_7, .ref q6_8, .ref q7_9, .int 0])), (q1_3, .inl (k1_10, 8, .inl (fun _ => 0))), (q2_4, .inl (k2_11, 8, .inl (fun _ => 0))), (q3_5, .inl (k3_12, 8, .inl (fun _ => 0))), (q4_6, .inl (k4_13, 8, .inl (fun _ => 0))), (q5_7, .inl (k5_14, 8, .inl (fun _ => 0))), (q6_8, .inl (k6_15, 8, .inl (fun _ => 0))), (q7_9, .inl (k7_16, 8, .inl (fun _ => 0))), (a_17, .inr (2, [.ref q1_19, .ref q2_20, .ref q3_21, .int 0, .int (-1), .int (-1)]))] H := hP
  have hD : va_D A [(h0, .inr (10, [.ref a_1, .null, .null, .null, .null, .null, .null, .null])), (a_1, .inr (7, [.ref q1_3, .ref q2_4, .ref q3_5, .ref q4_6, .ref q5_7, .ref q6_8, .ref q7_9, .int 0])), (q1_3, .inl (k1_10, 8, .inl (fun _ => 0))), (q2_4, .inl (k2_11, 8, .inl (fun _ => 0))), (q3_5, .inl (k3_12, 8, .inl (fun _ => 0))), (q4_6, .inl (k4_13, 8, .inl (fun _ => 0))), (q5_7, .inl (k5_14, 8, .inl (fun _ => 0))), (q6_8, .inl (k6_15, 8, .inl (fun _ => 0))), (q7_9, .inl (k7_16, 8, .inl (fun _ => 0))), (a_17, .inr (2, [.ref q1_19, .ref q2_20, .ref q3_21, .int 0, .int (-1), .int (-1)]))] := hD
  have hK : va_K (dC, dI) cls [(k1_10, .char), (k2_11, .char), (k3_12, .int), (k4_13, .boolean), (k5_14, .boolean), (k6_15, .boolean), (k7_16, .int)] s := hK
  refine W.widen (k := 12) (n := 91) (Nat.le_of_ble_eq_true rfl) (Nat.le_of_ble_eq_true rfl) ?_
  refine va_putF (D := (dC, dI)) (ci := 10) (v := .ref a_17) (ty := (.object "NightfallVillage$Deal")) (C := RX10) (T := TX10) (N := 8) hx hb hq i_X10 tyX10 tyX10_ok nmX10 hown hK hP hD hS 0 rfl rfl 1 (by decide) (hq _ q_327) (fun _ h9 => h9) rfl hin rfl (by decide +kernel) rfl rfl (Nat.le_of_ble_eq_true rfl) dX10_init_23 (fun H locs hP hD hS => ?_)
  have hP : va_P (dC, dI) cls [(h0, .inr (10, [.ref a_1, .ref a_17, .null, .null, .null, .null, .null, .null])), (a_1, .inr (7, [.ref q1_3, .ref q2_4, .ref q3_5, .ref q4_6, .ref q5_7, .ref q6_8, .ref q7_9, .int 0])), (q1_3, .inl (k1_10, 8, .inl (fun _ => 0))), (q2_4, .inl (k2_11, 8, .inl (fun _ => 0))), (q3_5, .inl (k3_12, 8, .inl (fun _ => 0))), (q4_6, .inl (k4_13, 8, .inl (fun _ => 0))), (q5_7, .inl (k5_14, 8, .inl (fun _ => 0))), (q6_8, .inl (k6_15, 8, .inl (fun _ => 0))), (q7_9, .inl (k7_16, 8, .inl (fun _ => 0))), (a_17, .inr (2, [.ref q1_19, .ref q2_20, .ref q3_21, .int 0, .int (-1), .int (-1)]))] H := hP
  have hD : va_D A [(h0, .inr (10, [.ref a_1, .ref a_17, .null, .null, .null, .null, .null, .null])), (a_1, .inr (7, [.ref q1_3, .ref q2_4, .ref q3_5, .ref q4_6, .ref q5_7, .ref q6_8, .ref q7_9, .int 0])), (q1_3, .inl (k1_10, 8, .inl (fun _ => 0))), (q2_4, .inl (k2_11, 8, .inl (fun _ => 0))), (q3_5, .inl (k3_12, 8, .inl (fun _ => 0))), (q4_6, .inl (k4_13, 8, .inl (fun _ => 0))), (q5_7, .inl (k5_14, 8, .inl (fun _ => 0))), (q6_8, .inl (k6_15, 8, .inl (fun _ => 0))), (q7_9, .inl (k7_16, 8, .inl (fun _ => 0))), (a_17, .inr (2, [.ref q1_19, .ref q2_20, .ref q3_21, .int 0, .int (-1), .int (-1)]))] := hD
  refine lv_aload_n hx hb dX10_init_26 rfl (lv_at hl 0 rfl) ?_
  refine va_new (ci := 4) (fs := [.null, .null, .null, .int 0, .int 0, .int 0, .int 0]) (C := RX4) (T := TX4) (N := 7) hx hb hq i_X4 tyX4 tyX4_ok hown (hq _ q_111) (hq _ q_112) (hq _ q_4) hK hP hD hS hA rfl (fun j hj => by rcases (show j = 0 ∨ j = 1 ∨ j = 2 ∨ j = 3 ∨ j = 4 ∨ j = 5 ∨ j = 6 by omega) with rfl | rfl | rfl | rfl | rfl | rfl | rfl <;> rfl) (Nat.le_of_ble_eq_true rfl) (Nat.le_of_ble_eq_true rfl) dX10_init_27 (fun a_22 H hP hD hS => ?_)
  have hP : va_P (dC, dI) cls [(h0, .inr (10, [.ref a_1, .ref a_17, .null, .null, .null, .null, .null, .null])), (a_1, .inr (7, [.ref q1_3, .ref q2_4, .ref q3_5, .ref q4_6, .ref q5_7, .ref q6_8, .ref q7_9, .int 0])), (q1_3, .inl (k1_10, 8, .inl (fun _ => 0))), (q2_4, .inl (k2_11, 8, .inl (fun _ => 0))), (q3_5, .inl (k3_12, 8, .inl (fun _ => 0))), (q4_6, .inl (k4_13, 8, .inl (fun _ => 0))), (q5_7, .inl (k5_14, 8, .inl (fun _ => 0))), (q6_8, .inl (k6_15, 8, .inl (fun _ => 0))), (q7_9, .inl (k7_16, 8, .inl (fun _ => 0))), (a_17, .inr (2, [.ref q1_19, .ref q2_20, .ref q3_21, .int 0, .int (-1), .int (-1)])), (a_22, .inr (4, [.null, .null, .null, .int 0, .int 0, .int 0, .int 0]))] H := hP
  have hD : va_D A [(h0, .inr (10, [.ref a_1, .ref a_17, .null, .null, .null, .null, .null, .null])), (a_1, .inr (7, [.ref q1_3, .ref q2_4, .ref q3_5, .ref q4_6, .ref q5_7, .ref q6_8, .ref q7_9, .int 0])), (q1_3, .inl (k1_10, 8, .inl (fun _ => 0))), (q2_4, .inl (k2_11, 8, .inl (fun _ => 0))), (q3_5, .inl (k3_12, 8, .inl (fun _ => 0))), (q4_6, .inl (k4_13, 8, .inl (fun _ => 0))), (q5_7, .inl (k5_14, 8, .inl (fun _ => 0))), (q6_8, .inl (k6_15, 8, .inl (fun _ => 0))), (q7_9, .inl (k7_16, 8, .inl (fun _ => 0))), (a_17, .inr (2, [.ref q1_19, .ref q2_20, .ref q3_21, .int 0, .int (-1), .int (-1)])), (a_22, .inr (4, [.null, .null, .null, .int 0, .int 0, .int 0, .int 0]))] := hD
  refine W.widen (k := 13) (n := 98) (Nat.le_of_ble_eq_true rfl) (Nat.le_of_ble_eq_true rfl) ?_
  refine lv_dup hx hb dX10_init_30 rfl ?_
  refine lv_aload_n hx hb dX10_init_31 rfl (lv_at hl 0 rfl) ?_
  refine va_get (D := (dC, dI)) (ci := 10) (v := .ref a_1) (C := RX10) (T := TX10) (N := 8) hx hb hq i_X10 hown hK hP 0 rfl rfl 0 (by decide) (hq _ q_326) (fun _ h9 => h9) rfl dX10_init_32 ?_
  refine lv_aload_n hx hb dX10_init_35 rfl (lv_at hl 0 rfl) ?_
  refine va_get (D := (dC, dI)) (ci := 10) (v := .ref a_17) (C := RX10) (T := TX10) (N := 8) hx hb hq i_X10 hown hK hP 0 rfl rfl 1 (by decide) (hq _ q_327) (fun _ h9 => h9) rfl dX10_init_36 ?_
  have hPc := hP.sub (ws' := [(a_22, .inr (4, [.null, .null, .null, .int 0, .int 0, .int 0, .int 0]))]) [10] rfl
  have hKc := hK.sub (tys' := []) [] rfl
  have hDc := hD.sub (ws' := [(a_22, .inr (4, [.null, .null, .null, .int 0, .int 0, .int 0, .int 0]))]) [10] (by decide) rfl
  have hFc := va_free (wc := [(a_22, .inr (4, [.null, .null, .null, .int 0, .int 0, .int 0, .int 0]))]) hD hS hA [10] rfl
  refine va_callv (va_runI (As := [.ref a_1, .ref a_17]) (rest := [.ref a_22, .ref h0]) ⟨hx, hb, hml, hown, hq⟩ (c_Game_init l hst tE adK adV dC dI a_22 a_1 a_17 H.size) (tcI 2 hq q_115 q_4 q_113 q_114 rfl rfl rfl (by decide +kernel) ⟨Nat.le_of_ble_eq_true rfl, Nat.le_of_ble_eq_true rfl⟩) (pre.S (pre.of hPc hDc hKc ham hS hFc)) rfl rfl hl.1 rfl (lv_room (Nat.le_of_ble_eq_true rfl)) dX10_init_39 ⟨Nat.le_of_ble_eq_true rfl, Nat.le_of_ble_eq_true rfl⟩) hS (fun q _ h => hFc q h) hFc (fun u t H1 locs ht hvm hw hB hz1 hk1 hS => ?_)
  obtain ⟨f0_24, n0_25, y0_26, q1_27, q2_28, q3_29, q4_30, q5_31, hP1, hK1, hD1⟩ := hB
  rw [ht] at hP1
  have hK1 := va_K.moved hvm.symm hK1
  obtain ⟨hP, hD⟩ := va_join (wr := [(h0, .inr (10, [.ref a_1, .ref a_17, .null, .null, .null, .null, .null, .null])), (a_1, .inr (7, [.ref q1_3, .ref q2_4, .ref q3_5, .ref q4_6, .ref q5_7, .ref q6_8, .ref q7_9, .int 0])), (q1_3, .inl (k1_10, 8, .inl (fun _ => 0))), (q2_4, .inl (k2_11, 8, .inl (fun _ => 0))), (q3_5, .inl (k3_12, 8, .inl (fun _ => 0))), (q4_6, .inl (k4_13, 8, .inl (fun _ => 0))), (q5_7, .inl (k5_14, 8, .inl (fun _ => 0))), (q6_8, .inl (k6_15, 8, .inl (fun _ => 0))), (q7_9, .inl (k7_16, 8, .inl (fun _ => 0))), (a_17, .inr (2, [.ref q1_19, .ref q2_20, .ref q3_21, .int 0, .int (-1), .int (-1)]))]) (w1 := [(a_22, .inr (4, [.ref f0_24, .ref n0_25, .ref y0_26, .int 0, .int 0, .int 0, .int 45])), (f0_24, .inr (3, [.ref a_1, .ref a_17, .ref q1_27, .ref q2_28, .ref q3_29, .ref q4_30, .ref q5_31, .int 0, .int 0]))]) (wc := [(a_22, .inr (4, [.null, .null, .null, .int 0, .int 0, .int 0, .int 0]))]) hP hD [10] [0, 1, 2, 3, 4, 5, 6, 7, 8, 9] rfl rfl (by decide) (by decide) hk1 hFc hP1 hD1
  have hK := (hK.sub (tys' := [(k1_10, .char), (k2_11, .char), (k3_12, .int), (k4_13, .boolean), (k5_14, .boolean), (k6_15, .boolean), (k7_16, .int)]) [0, 1, 2, 3, 4, 5, 6] rfl).app hK1
  generalize H1 = H at hP hS ⊢
  have hP : va_P (dC, dI) cls [(h0, .inr (10, [.ref a_1, .ref a_17, .null, .null, .null, .null, .null, .null])), (a_1, .inr (7, [.ref q1_3, .ref q2_4, .ref q3_5, .ref q4_6, .ref q5_7, .ref q6_8, .ref q7_9, .int 0])), (q1_3, .inl (k1_10, 8, .inl (fun _ => 0))), (q2_4, .inl (k2_11, 8, .inl (fun _ => 0))), (q3_5, .inl (k3_12, 8, .inl (fun _ => 0))), (q4_6, .inl (k4_13, 8, .inl (fun _ => 0))), (q5_7, .inl (k5_14, 8, .inl (fun _ => 0))), (q6_8, .inl (k6_15, 8, .inl (fun _ => 0))), (q7_9, .inl (k7_16, 8, .inl (fun _ => 0))), (a_17, .inr (2, [.ref q1_19, .ref q2_20, .ref q3_21, .int 0, .int (-1), .int (-1)])), (a_22, .inr (4, [.ref f0_24, .ref n0_25, .ref y0_26, .int 0, .int 0, .int 0, .int 45])), (f0_24, .inr (3, [.ref a_1, .ref a_17, .ref q1_27, .ref q2_28, .ref q3_29, .ref q4_30, .ref q5_31, .int 0, .int 0]))] H := hP
  have hD : va_D A [(h0, .inr (10, [.ref a_1, .ref a_17, .null, .null, .null, .null, .null, .null])), (a_1, .inr (7, [.ref q1_3, .ref q2_4, .ref q3_5, .ref q4_6, .ref q5_7, .ref q6_8, .ref q7_9, .int 0])), (q1_3, .inl (k1_10, 8, .inl (fun _ => 0))), (q2_4, .inl (k2_11, 8, .inl (fun _ => 0))), (q3_5, .inl (k3_12, 8, .inl (fun _ => 0))), (q4_6, .inl (k4_13, 8, .inl (fun _ => 0))), (q5_7, .inl (k5_14, 8, .inl (fun _ => 0))), (q6_8, .inl (k6_15, 8, .inl (fun _ => 0))), (q7_9, .inl (k7_16, 8, .inl (fun _ => 0))), (a_17, .inr (2, [.ref q1_19, .ref q2_20, .ref q3_21, .int 0, .int (-1), .int (-1)])), (a_22, .inr (4, [.ref f0_24, .ref n0_25, .ref y0_26, .int 0, .int 0, .int 0, .int 45])), (f0_24, .inr (3, [.ref a_1, .ref a_17, .ref q1_27, .ref q2_28, .ref q3_29, .ref q4_30, .ref q5_31, .int 0, .int 0]))] := hD
  have hK : va_K (dC, dI) cls [(k1_10, .char), (k2_11, .char), (k3_12, .int), (k4_13, .boolean), (k5_14, .boolean), (k6_15, .boolean), (k7_16, .int)] s := hK
  refine W.widen (k := 34) (n := 246) (Nat.le_of_ble_eq_true rfl) (Nat.le_of_ble_eq_true rfl) ?_
  refine va_putF (D := (dC, dI)) (ci := 10) (v := .ref a_22) (ty := (.object "NightfallVillage$Game")) (C := RX10) (T := TX10) (N := 8) hx hb hq i_X10 tyX10 tyX10_ok nmX10 hown hK hP hD hS 0 rfl rfl 2 (by decide) (hq _ q_328) (fun _ h9 => h9) rfl hin rfl (by decide +kernel) rfl rfl (Nat.le_of_ble_eq_true rfl) dX10_init_42 (fun H locs hP hD hS => ?_)
  have hP : va_P (dC, dI) cls [(h0, .inr (10, [.ref a_1, .ref a_17, .ref a_22, .null, .null, .null, .null, .null])), (a_1, .inr (7, [.ref q1_3, .ref q2_4, .ref q3_5, .ref q4_6, .ref q5_7, .ref q6_8, .ref q7_9, .int 0])), (q1_3, .inl (k1_10, 8, .inl (fun _ => 0))), (q2_4, .inl (k2_11, 8, .inl (fun _ => 0))), (q3_5, .inl (k3_12, 8, .inl (fun _ => 0))), (q4_6, .inl (k4_13, 8, .inl (fun _ => 0))), (q5_7, .inl (k5_14, 8, .inl (fun _ => 0))), (q6_8, .inl (k6_15, 8, .inl (fun _ => 0))), (q7_9, .inl (k7_16, 8, .inl (fun _ => 0))), (a_17, .inr (2, [.ref q1_19, .ref q2_20, .ref q3_21, .int 0, .int (-1), .int (-1)])), (a_22, .inr (4, [.ref f0_24, .ref n0_25, .ref y0_26, .int 0, .int 0, .int 0, .int 45])), (f0_24, .inr (3, [.ref a_1, .ref a_17, .ref q1_27, .ref q2_28, .ref q3_29, .ref q4_30, .ref q5_31, .int 0, .int 0]))] H := hP
  have hD : va_D A [(h0, .inr (10, [.ref a_1, .ref a_17, .ref a_22, .null, .null, .null, .null, .null])), (a_1, .inr (7, [.ref q1_3, .ref q2_4, .ref q3_5, .ref q4_6, .ref q5_7, .ref q6_8, .ref q7_9, .int 0])), (q1_3, .inl (k1_10, 8, .inl (fun _ => 0))), (q2_4, .inl (k2_11, 8, .inl (fun _ => 0))), (q3_5, .inl (k3_12, 8, .inl (fun _ => 0))), (q4_6, .inl (k4_13, 8, .inl (fun _ => 0))), (q5_7, .inl (k5_14, 8, .inl (fun _ => 0))), (q6_8, .inl (k6_15, 8, .inl (fun _ => 0))), (q7_9, .inl (k7_16, 8, .inl (fun _ => 0))), (a_17, .inr (2, [.ref q1_19, .ref q2_20, .ref q3_21, .int 0, .int (-1), .int (-1)])), (a_22, .inr (4, [.ref f0_24, .ref n0_25, .ref y0_26, .int 0, .int 0, .int 0, .int 45])), (f0_24, .inr (3, [.ref a_1, .ref a_17, .ref q1_27, .ref q2_28, .ref q3_29, .ref q4_30, .ref q5_31, .int 0, .int 0]))] := hD
  refine lv_aload_n hx hb dX10_init_45 rfl (lv_at hl 0 rfl) ?_
  refine va_new (ci := 4) (fs := [.null, .null, .null, .int 0, .int 0, .int 0, .int 0]) (C := RX4) (T := TX4) (N := 7) hx hb hq i_X4 tyX4 tyX4_ok hown (hq _ q_111) (hq _ q_112) (hq _ q_4) hK hP hD hS hA rfl (fun j hj => by rcases (show j = 0 ∨ j = 1 ∨ j = 2 ∨ j = 3 ∨ j = 4 ∨ j = 5 ∨ j = 6 by omega) with rfl | rfl | rfl | rfl | rfl | rfl | rfl <;> rfl) (Nat.le_of_ble_eq_true rfl) (Nat.le_of_ble_eq_true rfl) dX10_init_46 (fun a_32 H hP hD hS => ?_)
  have hP : va_P (dC, dI) cls [(h0, .inr (10, [.ref a_1, .ref a_17, .ref a_22, .null, .null, .null, .null, .null])), (a_1, .inr (7, [.ref q1_3, .ref q2_4, .ref q3_5, .ref q4_6, .ref q5_7, .ref q6_8, .ref q7_9, .int 0])), (q1_3, .inl (k1_10, 8, .inl (fun _ => 0))), (q2_4, .inl (k2_11, 8, .inl (fun _ => 0))), (q3_5, .inl (k3_12, 8, .inl (fun _ => 0))), (q4_6, .inl (k4_13, 8, .inl (fun _ => 0))), (q5_7, .inl (k5_14, 8, .inl (fun _ => 0))), (q6_8, .inl (k6_15, 8, .inl (fun _ => 0))), (q7_9, .inl (k7_16, 8, .inl (fun _ => 0))), (a_17, .inr (2, [.ref q1_19, .ref q2_20, .ref q3_21, .int 0, .int (-1), .int (-1)])), (a_22, .inr (4, [.ref f0_24, .ref n0_25, .ref y0_26, .int 0, .int 0, .int 0, .int 45])), (f0_24, .inr (3, [.ref a_1, .ref a_17, .ref q1_27, .ref q2_28, .ref q3_29, .ref q4_30, .ref q5_31, .int 0, .int 0])), (a_32, .inr (4, [.null, .null, .null, .int 0, .int 0, .int 0, .int 0]))] H := hP
  have hD : va_D A [(h0, .inr (10, [.ref a_1, .ref a_17, .ref a_22, .null, .null, .null, .null, .null])), (a_1, .inr (7, [.ref q1_3, .ref q2_4, .ref q3_5, .ref q4_6, .ref q5_7, .ref q6_8, .ref q7_9, .int 0])), (q1_3, .inl (k1_10, 8, .inl (fun _ => 0))), (q2_4, .inl (k2_11, 8, .inl (fun _ => 0))), (q3_5, .inl (k3_12, 8, .inl (fun _ => 0))), (q4_6, .inl (k4_13, 8, .inl (fun _ => 0))), (q5_7, .inl (k5_14, 8, .inl (fun _ => 0))), (q6_8, .inl (k6_15, 8, .inl (fun _ => 0))), (q7_9, .inl (k7_16, 8, .inl (fun _ => 0))), (a_17, .inr (2, [.ref q1_19, .ref q2_20, .ref q3_21, .int 0, .int (-1), .int (-1)])), (a_22, .inr (4, [.ref f0_24, .ref n0_25, .ref y0_26, .int 0, .int 0, .int 0, .int 45])), (f0_24, .inr (3, [.ref a_1, .ref a_17, .ref q1_27, .ref q2_28, .ref q3_29, .ref q4_30, .ref q5_31, .int 0, .int 0])), (a_32, .inr (4, [.null, .null, .null, .int 0, .int 0, .int 0, .int 0]))] := hD
  refine W.widen (k := 35) (n := 253) (Nat.le_of_ble_eq_true rfl) (Nat.le_of_ble_eq_true rfl) ?_
  refine lv_dup hx hb dX10_init_49 rfl ?_
  refine lv_aload_n hx hb dX10_init_50 rfl (lv_at hl 0 rfl) ?_
  refine va_get (D := (dC, dI)) (ci := 10) (v := .ref a_1) (C := RX10) (T := TX10) (N := 8) hx hb hq i_X10 hown hK hP 0 rfl rfl 0 (by decide) (hq _ q_326) (fun _ h9 => h9) rfl dX10_init_51 ?_
  refine lv_aload_n hx hb dX10_init_54 rfl (lv_at hl 0 rfl) ?_
  refine va_get (D := (dC, dI)) (ci := 10) (v := .ref a_17) (C := RX10) (T := TX10) (N := 8) hx hb hq i_X10 hown hK hP 0 rfl rfl 1 (by decide) (hq _ q_327) (fun _ h9 => h9) rfl dX10_init_55 ?_
  have hPc := hP.sub (ws' := [(a_32, .inr (4, [.null, .null, .null, .int 0, .int 0, .int 0, .int 0]))]) [12] rfl
  have hKc := hK.sub (tys' := []) [] rfl
  have hDc := hD.sub (ws' := [(a_32, .inr (4, [.null, .null, .null, .int 0, .int 0, .int 0, .int 0]))]) [12] (by decide) rfl
  have hFc := va_free (wc := [(a_32, .inr (4, [.null, .null, .null, .int 0, .int 0, .int 0, .int 0]))]) hD hS hA [12] rfl
  refine va_callv (va_runI (As := [.ref a_1, .ref a_17]) (rest := [.ref a_32, .ref h0]) ⟨hx, hb, hml, hown, hq⟩ (c_Game_init l hst tE adK adV dC dI a_32 a_1 a_17 H.size) (tcI 2 hq q_115 q_4 q_113 q_114 rfl rfl rfl (by decide +kernel) ⟨Nat.le_of_ble_eq_true rfl, Nat.le_of_ble_eq_true rfl⟩) (pre.S (pre.of hPc hDc hKc ham hS hFc)) rfl rfl hl.1 rfl (lv_room (Nat.le_of_ble_eq_true rfl)) dX10_init_58 ⟨Nat.le_of_ble_eq_true rfl, Nat.le_of_ble_eq_true rfl⟩) hS (fun q _ h => hFc q h) hFc (fun u t H1 locs ht hvm hw hB hz1 hk1 hS => ?_)
  obtain ⟨f0_34, n0_35, y0_36, q1_37, q2_38, q3_39, q4_40, q5_41, hP1, hK1, hD1⟩ := hB
  rw [ht] at hP1
  have hK1 := va_K.moved hvm.symm hK1
  obtain ⟨hP, hD⟩ := va_join (wr := [(h0, .inr (10, [.ref a_1, .ref a_17, .ref a_22, .null, .null, .null, .null, .null])), (a_1, .inr (7, [.ref q1_3, .ref q2_4, .ref q3_5, .ref q4_6, .ref q5_7, .ref q6_8, .ref q7_9, .int 0])), (q1_3, .inl (k1_10, 8, .inl (fun _ => 0))), (q2_4, .inl (k2_11, 8, .inl (fun _ => 0))), (q3_5, .inl (k3_12, 8, .inl (fun _ => 0))), (q4_6, .inl (k4_13, 8, .inl (fun _ => 0))), (q5_7, .inl (k5_14, 8, .inl (fun _ => 0))), (q6_8, .inl (k6_15, 8, .inl (fun _ => 0))), (q7_9, .inl (k7_16, 8, .inl (fun _ => 0))), (a_17, .inr (2, [.ref q1_19, .ref q2_20, .ref q3_21, .int 0, .int (-1), .int (-1)])), (a_22, .inr (4, [.ref f0_24, .ref n0_25, .ref y0_26, .int 0, .int 0, .int 0, .int 45])), (f0_24, .inr (3, [.ref a_1, .ref a_17, .ref q1_27, .ref q2_28, .ref q3_29, .ref q4_30, .ref q5_31, .int 0, .int 0]))]) (w1 := [(a_32, .inr (4, [.ref f0_34, .ref n0_35, .ref y0_36, .int 0, .int 0, .int 0, .int 45])), (f0_34, .inr (3, [.ref a_1, .ref a_17, .ref q1_37, .ref q2_38, .ref q3_39, .ref q4_40, .ref q5_41, .int 0, .int 0]))]) (wc := [(a_32, .inr (4, [.null, .null, .null, .int 0, .int 0, .int 0, .int 0]))]) hP hD [12] [0, 1, 2, 3, 4, 5, 6, 7, 8, 9, 10, 11] rfl rfl (by decide) (by decide) hk1 hFc hP1 hD1
  have hK := (hK.sub (tys' := [(k1_10, .char), (k2_11, .char), (k3_12, .int), (k4_13, .boolean), (k5_14, .boolean), (k6_15, .boolean), (k7_16, .int)]) [0, 1, 2, 3, 4, 5, 6] rfl).app hK1
  generalize H1 = H at hP hS ⊢
  have hP : va_P (dC, dI) cls [(h0, .inr (10, [.ref a_1, .ref a_17, .ref a_22, .null, .null, .null, .null, .null])), (a_1, .inr (7, [.ref q1_3, .ref q2_4, .ref q3_5, .ref q4_6, .ref q5_7, .ref q6_8, .ref q7_9, .int 0])), (q1_3, .inl (k1_10, 8, .inl (fun _ => 0))), (q2_4, .inl (k2_11, 8, .inl (fun _ => 0))), (q3_5, .inl (k3_12, 8, .inl (fun _ => 0))), (q4_6, .inl (k4_13, 8, .inl (fun _ => 0))), (q5_7, .inl (k5_14, 8, .inl (fun _ => 0))), (q6_8, .inl (k6_15, 8, .inl (fun _ => 0))), (q7_9, .inl (k7_16, 8, .inl (fun _ => 0))), (a_17, .inr (2, [.ref q1_19, .ref q2_20, .ref q3_21, .int 0, .int (-1), .int (-1)])), (a_22, .inr (4, [.ref f0_24, .ref n0_25, .ref y0_26, .int 0, .int 0, .int 0, .int 45])), (f0_24, .inr (3, [.ref a_1, .ref a_17, .ref q1_27, .ref q2_28, .ref q3_29, .ref q4_30, .ref q5_31, .int 0, .int 0])), (a_32, .inr (4, [.ref f0_34, .ref n0_35, .ref y0_36, .int 0, .int 0, .int 0, .int 45])), (f0_34, .inr (3, [.ref a_1, .ref a_17, .ref q1_37, .ref q2_38, .ref q3_39, .ref q4_40, .ref q5_41, .int 0, .int 0]))] H := hP
  have hD : va_D A [(h0, .inr (10, [.ref a_1, .ref a_17, .ref a_22, .null, .null, .null, .null, .null])), (a_1, .inr (7, [.ref q1_3, .ref q2_4, .ref q3_5, .ref q4_6, .ref q5_7, .ref q6_8, .ref q7_9, .int 0])), (q1_3, .inl (k1_10, 8, .inl (fun _ => 0))), (q2_4, .inl (k2_11, 8, .inl (fun _ => 0))), (q3_5, .inl (k3_12, 8, .inl (fun _ => 0))), (q4_6, .inl (k4_13, 8, .inl (fun _ => 0))), (q5_7, .inl (k5_14, 8, .inl (fun _ => 0))), (q6_8, .inl (k6_15, 8, .inl (fun _ => 0))), (q7_9, .inl (k7_16, 8, .inl (fun _ => 0))), (a_17, .inr (2, [.ref q1_19, .ref q2_20, .ref q3_21, .int 0, .int (-1), .int (-1)])), (a_22, .inr (4, [.ref f0_24, .ref n0_25, .ref y0_26, .int 0, .int 0, .int 0, .int 45])), (f0_24, .inr (3, [.ref a_1, .ref a_17, .ref q1_27, .ref q2_28, .ref q3_29, .ref q4_30, .ref q5_31, .int 0, .int 0])), (a_32, .inr (4, [.ref f0_34, .ref n0_35, .ref y0_36, .int 0, .int 0, .int 0, .int 45])), (f0_34, .inr (3, [.ref a_1, .ref a_17, .ref q1_37, .ref q2_38, .ref q3_39, .ref q4_40, .ref q5_41, .int 0, .int 0]))] := hD
  have hK : va_K (dC, dI) cls [(k1_10, .char), (k2_11, .char), (k3_12, .int), (k4_13, .boolean), (k5_14, .boolean), (k6_15, .boolean), (k7_16, .int)] s := hK
  refine W.widen (k := 56) (n := 401) (Nat.le_of_ble_eq_true rfl) (Nat.le_of_ble_eq_true rfl) ?_
  refine va_putF (D := (dC, dI)) (ci := 10) (v := .ref a_32) (ty := (.object "NightfallVillage$Game")) (C := RX10) (T := TX10) (N := 8) hx hb hq i_X10 tyX10 tyX10_ok nmX10 hown hK hP hD hS 0 rfl rfl 3 (by decide) (hq _ q_329) (fun _ h9 => h9) rfl hin rfl (by decide +kernel) rfl rfl (Nat.le_of_ble_eq_true rfl) dX10_init_61 (fun H locs hP hD hS => ?_)
  have hP : va_P (dC, dI) cls [(h0, .inr (10, [.ref a_1, .ref a_17, .ref a_22, .ref a_32, .null, .null, .null, .null])), (a_1, .inr (7, [.ref q1_3, .ref q2_4, .ref q3_5, .ref q4_6, .ref q5_7, .ref q6_8, .ref q7_9, .int 0])), (q1_3, .inl (k1_10, 8, .inl (fun _ => 0))), (q2_4, .inl (k2_11, 8, .inl (fun _ => 0))), (q3_5, .inl (k3_12, 8, .inl (fun _ => 0))), (q4_6, .inl (k4_13, 8, .inl (fun _ => 0))), (q5_7, .inl (k5_14, 8, .inl (fun _ => 0))), (q6_8, .inl (k6_15, 8, .inl (fun _ => 0))), (q7_9, .inl (k7_16, 8, .inl (fun _ => 0))), (a_17, .inr (2, [.ref q1_19, .ref q2_20, .ref q3_21, .int 0, .int (-1), .int (-1)])), (a_22, .inr (4, [.ref f0_24, .ref n0_25, .ref y0_26, .int 0, .int 0, .int 0, .int 45])), (f0_24, .inr (3, [.ref a_1, .ref a_17, .ref q1_27, .ref q2_28, .ref q3_29, .ref q4_30, .ref q5_31, .int 0, .int 0])), (a_32, .inr (4, [.ref f0_34, .ref n0_35, .ref y0_36, .int 0, .int 0, .int 0, .int 45])), (f0_34, .inr (3, [.ref a_1, .ref a_17, .ref q1_37, .ref q2_38, .ref q3_39, .ref q4_40, .ref q5_41, .int 0, .int 0]))] H := hP
  have hD : va_D A [(h0, .inr (10, [.ref a_1, .ref a_17, .ref a_22, .ref a_32, .null, .null, .null, .null])), (a_1, .inr (7, [.ref q1_3, .ref q2_4, .ref q3_5, .ref q4_6, .ref q5_7, .ref q6_8, .ref q7_9, .int 0])), (q1_3, .inl (k1_10, 8, .inl (fun _ => 0))), (q2_4, .inl (k2_11, 8, .inl (fun _ => 0))), (q3_5, .inl (k3_12, 8, .inl (fun _ => 0))), (q4_6, .inl (k4_13, 8, .inl (fun _ => 0))), (q5_7, .inl (k5_14, 8, .inl (fun _ => 0))), (q6_8, .inl (k6_15, 8, .inl (fun _ => 0))), (q7_9, .inl (k7_16, 8, .inl (fun _ => 0))), (a_17, .inr (2, [.ref q1_19, .ref q2_20, .ref q3_21, .int 0, .int (-1), .int (-1)])), (a_22, .inr (4, [.ref f0_24, .ref n0_25, .ref y0_26, .int 0, .int 0, .int 0, .int 45])), (f0_24, .inr (3, [.ref a_1, .ref a_17, .ref q1_27, .ref q2_28, .ref q3_29, .ref q4_30, .ref q5_31, .int 0, .int 0])), (a_32, .inr (4, [.ref f0_34, .ref n0_35, .ref y0_36, .int 0, .int 0, .int 0, .int 45])), (f0_34, .inr (3, [.ref a_1, .ref a_17, .ref q1_37, .ref q2_38, .ref q3_39, .ref q4_40, .ref q5_41, .int 0, .int 0]))] := hD
  refine lv_aload_n hx hb dX10_init_64 rfl (lv_at hl 0 rfl) ?_
  refine va_new (ci := 5) (fs := [.null, .int 0]) (C := RX5) (T := TX5) (N := 2) hx hb hq i_X5 tyX5 tyX5_ok hown (hq _ q_237) (hq _ q_238) (hq _ q_8) hK hP hD hS hA rfl (fun j hj => by rcases (show j = 0 ∨ j = 1 by omega) with rfl | rfl <;> rfl) (Nat.le_of_ble_eq_true rfl) (Nat.le_of_ble_eq_true rfl) dX10_init_65 (fun a_42 H hP hD hS => ?_)
  have hP : va_P (dC, dI) cls [(h0, .inr (10, [.ref a_1, .ref a_17, .ref a_22, .ref a_32, .null, .null, .null, .null])), (a_1, .inr (7, [.ref q1_3, .ref q2_4, .ref q3_5, .ref q4_6, .ref q5_7, .ref q6_8, .ref q7_9, .int 0])), (q1_3, .inl (k1_10, 8, .inl (fun _ => 0))), (q2_4, .inl (k2_11, 8, .inl (fun _ => 0))), (q3_5, .inl (k3_12, 8, .inl (fun _ => 0))), (q4_6, .inl (k4_13, 8, .inl (fun _ => 0))), (q5_7, .inl (k5_14, 8, .inl (fun _ => 0))), (q6_8, .inl (k6_15, 8, .inl (fun _ => 0))), (q7_9, .inl (k7_16, 8, .inl (fun _ => 0))), (a_17, .inr (2, [.ref q1_19, .ref q2_20, .ref q3_21, .int 0, .int (-1), .int (-1)])), (a_22, .inr (4, [.ref f0_24, .ref n0_25, .ref y0_26, .int 0, .int 0, .int 0, .int 45])), (f0_24, .inr (3, [.ref a_1, .ref a_17, .ref q1_27, .ref q2_28, .ref q3_29, .ref q4_30, .ref q5_31, .int 0, .int 0])), (a_32, .inr (4, [.ref f0_34, .ref n0_35, .ref y0_36, .int 0, .int 0, .int 0, .int 45])), (f0_34, .inr (3, [.ref a_1, .ref a_17, .ref q1_37, .ref q2_38, .ref q3_39, .ref q4_40, .ref q5_41, .int 0, .int 0])), (a_42, .inr (5, [.null, .int 0]))] H := hP
  have hD : va_D A [(h0, .inr (10, [.ref a_1, .ref a_17, .ref a_22, .ref a_32, .null, .null, .null, .null])), (a_1, .inr (7, [.ref q1_3, .ref q2_4, .ref q3_5, .ref q4_6, .ref q5_7, .ref q6_8, .ref q7_9, .int 0])), (q1_3, .inl (k1_10, 8, .inl (fun _ => 0))), (q2_4, .inl (k2_11, 8, .inl (fun _ => 0))), (q3_5, .inl (k3_12, 8, .inl (fun _ => 0))), (q4_6, .inl (k4_13, 8, .inl (fun _ => 0))), (q5_7, .inl (k5_14, 8, .inl (fun _ => 0))), (q6_8, .inl (k6_15, 8, .inl (fun _ => 0))), (q7_9, .inl (k7_16, 8, .inl (fun _ => 0))), (a_17, .inr (2, [.ref q1_19, .ref q2_20, .ref q3_21, .int 0, .int (-1), .int (-1)])), (a_22, .inr (4, [.ref f0_24, .ref n0_25, .ref y0_26, .int 0, .int 0, .int 0, .int 45])), (f0_24, .inr (3, [.ref a_1, .ref a_17, .ref q1_27, .ref q2_28, .ref q3_29, .ref q4_30, .ref q5_31, .int 0, .int 0])), (a_32, .inr (4, [.ref f0_34, .ref n0_35, .ref y0_36, .int 0, .int 0, .int 0, .int 45])), (f0_34, .inr (3, [.ref a_1, .ref a_17, .ref q1_37, .ref q2_38, .ref q3_39, .ref q4_40, .ref q5_41, .int 0, .int 0])), (a_42, .inr (5, [.null, .int 0]))] := hD
  refine W.widen (k := 57) (n := 403) (Nat.le_of_ble_eq_true rfl) (Nat.le_of_ble_eq_true rfl) ?_
  refine lv_dup hx hb dX10_init_68 rfl ?_
  have hPc := hP.sub (ws' := [(a_42, .inr (5, [.null, .int 0]))]) [14] rfl
  have hKc := hK.sub (tys' := []) [] rfl
  have hDc := hD.sub (ws' := [(a_42, .inr (5, [.null, .int 0]))]) [14] (by decide) rfl
  have hFc := va_free (wc := [(a_42, .inr (5, [.null, .int 0]))]) hD hS hA [14] rfl
  refine va_callv (va_runIN (As := []) (rest := [.ref a_42, .ref h0]) ⟨hx, hb, hml, hown, hq⟩ (c_History_init l hst tE adK adV dC dI a_42 H.size) (tcIN 0 hq q_241 q_8 q_239 q_240 rfl rfl rfl (by decide +kernel) ⟨Nat.le_of_ble_eq_true rfl, Nat.le_of_ble_eq_true rfl⟩) (pre.S (pre.of hPc hDc hKc ham hS hFc)) rfl rfl hl.1 rfl (lv_room (Nat.le_of_ble_eq_true rfl)) dX10_init_69 ⟨Nat.le_of_ble_eq_true rfl, Nat.le_of_ble_eq_true rfl⟩) hS (fun q _ h => hFc q h) hFc (fun u t H1 locs ht hvm hw hB hz1 hk1 hS => ?_)
  obtain ⟨hP, hD⟩ := va_join (wr := [(h0, .inr (10, [.ref a_1, .ref a_17, .ref a_22, .ref a_32, .null, .null, .null, .null])), (a_1, .inr (7, [.ref q1_3, .ref q2_4, .ref q3_5, .ref q4_6, .ref q5_7, .ref q6_8, .ref q7_9, .int 0])), (q1_3, .inl (k1_10, 8, .inl (fun _ => 0))), (q2_4, .inl (k2_11, 8, .inl (fun _ => 0))), (q3_5, .inl (k3_12, 8, .inl (fun _ => 0))), (q4_6, .inl (k4_13, 8, .inl (fun _ => 0))), (q5_7, .inl (k5_14, 8, .inl (fun _ => 0))), (q6_8, .inl (k6_15, 8, .inl (fun _ => 0))), (q7_9, .inl (k7_16, 8, .inl (fun _ => 0))), (a_17, .inr (2, [.ref q1_19, .ref q2_20, .ref q3_21, .int 0, .int (-1), .int (-1)])), (a_22, .inr (4, [.ref f0_24, .ref n0_25, .ref y0_26, .int 0, .int 0, .int 0, .int 45])), (f0_24, .inr (3, [.ref a_1, .ref a_17, .ref q1_27, .ref q2_28, .ref q3_29, .ref q4_30, .ref q5_31, .int 0, .int 0])), (a_32, .inr (4, [.ref f0_34, .ref n0_35, .ref y0_36, .int 0, .int 0, .int 0, .int 45])), (f0_34, .inr (3, [.ref a_1, .ref a_17, .ref q1_37, .ref q2_38, .ref q3_39, .ref q4_40, .ref q5_41, .int 0, .int 0]))]) (w1 := []) (wc := [(a_42, .inr (5, [.null, .int 0]))]) hP hD [14] [0, 1, 2, 3, 4, 5, 6, 7, 8, 9, 10, 11, 12, 13] rfl rfl (by decide) (by decide) hk1 hFc (fun k q h => by simp at h) ⟨fun i j p q h => by simp at h, fun k q h => by simp at h⟩
  generalize H1 = H at hP hS ⊢
  have hP : va_P (dC, dI) cls [(h0, .inr (10, [.ref a_1, .ref a_17, .ref a_22, .ref a_32, .null, .null, .null, .null])), (a_1, .inr (7, [.ref q1_3, .ref q2_4, .ref q3_5, .ref q4_6, .ref q5_7, .ref q6_8, .ref q7_9, .int 0])), (q1_3, .inl (k1_10, 8, .inl (fun _ => 0))), (q2_4, .inl (k2_11, 8, .inl (fun _ => 0))), (q3_5, .inl (k3_12, 8, .inl (fun _ => 0))), (q4_6, .inl (k4_13, 8, .inl (fun _ => 0))), (q5_7, .inl (k5_14, 8, .inl (fun _ => 0))), (q6_8, .inl (k6_15, 8, .inl (fun _ => 0))), (q7_9, .inl (k7_16, 8, .inl (fun _ => 0))), (a_17, .inr (2, [.ref q1_19, .ref q2_20, .ref q3_21, .int 0, .int (-1), .int (-1)])), (a_22, .inr (4, [.ref f0_24, .ref n0_25, .ref y0_26, .int 0, .int 0, .int 0, .int 45])), (f0_24, .inr (3, [.ref a_1, .ref a_17, .ref q1_27, .ref q2_28, .ref q3_29, .ref q4_30, .ref q5_31, .int 0, .int 0])), (a_32, .inr (4, [.ref f0_34, .ref n0_35, .ref y0_36, .int 0, .int 0, .int 0, .int 45])), (f0_34, .inr (3, [.ref a_1, .ref a_17, .ref q1_37, .ref q2_38, .ref q3_39, .ref q4_40, .ref q5_41, .int 0, .int 0]))] H := hP
  have hD : va_D A [(h0, .inr (10, [.ref a_1, .ref a_17, .ref a_22, .ref a_32, .null, .null, .null, .null])), (a_1, .inr (7, [.ref q1_3, .ref q2_4, .ref q3_5, .ref q4_6, .ref q5_7, .ref q6_8, .ref q7_9, .int 0])), (q1_3, .inl (k1_10, 8, .inl (fun _ => 0))), (q2_4, .inl (k2_11, 8, .inl (fun _ => 0))), (q3_5, .inl (k3_12, 8, .inl (fun _ => 0))), (q4_6, .inl (k4_13, 8, .inl (fun _ => 0))), (q5_7, .inl (k5_14, 8, .inl (fun _ => 0))), (q6_8, .inl (k6_15, 8, .inl (fun _ => 0))), (q7_9, .inl (k7_16, 8, .inl (fun _ => 0))), (a_17, .inr (2, [.ref q1_19, .ref q2_20, .ref q3_21, .int 0, .int (-1), .int (-1)])), (a_22, .inr (4, [.ref f0_24, .ref n0_25, .ref y0_26, .int 0, .int 0, .int 0, .int 45])), (f0_24, .inr (3, [.ref a_1, .ref a_17, .ref q1_27, .ref q2_28, .ref q3_29, .ref q4_30, .ref q5_31, .int 0, .int 0])), (a_32, .inr (4, [.ref f0_34, .ref n0_35, .ref y0_36, .int 0, .int 0, .int 0, .int 45])), (f0_34, .inr (3, [.ref a_1, .ref a_17, .ref q1_37, .ref q2_38, .ref q3_39, .ref q4_40, .ref q5_41, .int 0, .int 0]))] := hD
  have hK : va_K (dC, dI) cls [(k1_10, .char), (k2_11, .char), (k3_12, .int), (k4_13, .boolean), (k5_14, .boolean), (k6_15, .boolean), (k7_16, .int)] s := hK
  refine W.widen (k := 58) (n := 915) (Nat.le_of_ble_eq_true rfl) (Nat.le_of_ble_eq_true rfl) ?_
  refine va_putF (D := (dC, dI)) (ci := 10) (v := .ref a_42) (ty := (.object "NightfallVillage$History")) (C := RX10) (T := TX10) (N := 8) hx hb hq i_X10 tyX10 tyX10_ok nmX10 hown hK hP hD hS 0 rfl rfl 4 (by decide) (hq _ q_330) (fun _ h9 => h9) rfl hin rfl (by decide +kernel) rfl rfl (Nat.le_of_ble_eq_true rfl) dX10_init_72 (fun H locs hP hD hS => ?_)
  have hP : va_P (dC, dI) cls [(h0, .inr (10, [.ref a_1, .ref a_17, .ref a_22, .ref a_32, .ref a_42, .null, .null, .null])), (a_1, .inr (7, [.ref q1_3, .ref q2_4, .ref q3_5, .ref q4_6, .ref q5_7, .ref q6_8, .ref q7_9, .int 0])), (q1_3, .inl (k1_10, 8, .inl (fun _ => 0))), (q2_4, .inl (k2_11, 8, .inl (fun _ => 0))), (q3_5, .inl (k3_12, 8, .inl (fun _ => 0))), (q4_6, .inl (k4_13, 8, .inl (fun _ => 0))), (q5_7, .inl (k5_14, 8, .inl (fun _ => 0))), (q6_8, .inl (k6_15, 8, .inl (fun _ => 0))), (q7_9, .inl (k7_16, 8, .inl (fun _ => 0))), (a_17, .inr (2, [.ref q1_19, .ref q2_20, .ref q3_21, .int 0, .int (-1), .int (-1)])), (a_22, .inr (4, [.ref f0_24, .ref n0_25, .ref y0_26, .int 0, .int 0, .int 0, .int 45])), (f0_24, .inr (3, [.ref a_1, .ref a_17, .ref q1_27, .ref q2_28, .ref q3_29, .ref q4_30, .ref q5_31, .int 0, .int 0])), (a_32, .inr (4, [.ref f0_34, .ref n0_35, .ref y0_36, .int 0, .int 0, .int 0, .int 45])), (f0_34, .inr (3, [.ref a_1, .ref a_17, .ref q1_37, .ref q2_38, .ref q3_39, .ref q4_40, .ref q5_41, .int 0, .int 0]))] H := hP
  have hD : va_D A [(h0, .inr (10, [.ref a_1, .ref a_17, .ref a_22, .ref a_32, .ref a_42, .null, .null, .null])), (a_1, .inr (7, [.ref q1_3, .ref q2_4, .ref q3_5, .ref q4_6, .ref q5_7, .ref q6_8, .ref q7_9, .int 0])), (q1_3, .inl (k1_10, 8, .inl (fun _ => 0))), (q2_4, .inl (k2_11, 8, .inl (fun _ => 0))), (q3_5, .inl (k3_12, 8, .inl (fun _ => 0))), (q4_6, .inl (k4_13, 8, .inl (fun _ => 0))), (q5_7, .inl (k5_14, 8, .inl (fun _ => 0))), (q6_8, .inl (k6_15, 8, .inl (fun _ => 0))), (q7_9, .inl (k7_16, 8, .inl (fun _ => 0))), (a_17, .inr (2, [.ref q1_19, .ref q2_20, .ref q3_21, .int 0, .int (-1), .int (-1)])), (a_22, .inr (4, [.ref f0_24, .ref n0_25, .ref y0_26, .int 0, .int 0, .int 0, .int 45])), (f0_24, .inr (3, [.ref a_1, .ref a_17, .ref q1_27, .ref q2_28, .ref q3_29, .ref q4_30, .ref q5_31, .int 0, .int 0])), (a_32, .inr (4, [.ref f0_34, .ref n0_35, .ref y0_36, .int 0, .int 0, .int 0, .int 45])), (f0_34, .inr (3, [.ref a_1, .ref a_17, .ref q1_37, .ref q2_38, .ref q3_39, .ref q4_40, .ref q5_41, .int 0, .int 0]))] := hD
  refine lv_aload_n hx hb dX10_init_75 rfl (lv_at hl 0 rfl) ?_
  refine va_new (ci := 8) (fs := [.null, .null, .null, .int 0]) (C := RX8) (T := TX8) (N := 4) hx hb hq i_X8 tyX8 tyX8_ok hown (hq _ q_251) (hq _ q_252) (hq _ q_9) hK hP hD hS hA rfl (fun j hj => by rcases (show j = 0 ∨ j = 1 ∨ j = 2 ∨ j = 3 by omega) with rfl | rfl | rfl | rfl <;> rfl) (Nat.le_of_ble_eq_true rfl) (Nat.le_of_ble_eq_true rfl) dX10_init_76 (fun a_44 H hP hD hS => ?_)
  have hP : va_P (dC, dI) cls [(h0, .inr (10, [.ref a_1, .ref a_17, .ref a_22, .ref a_32, .ref a_42, .null, .null, .null])), (a_1, .inr (7, [.ref q1_3, .ref q2_4, .ref q3_5, .ref q4_6, .ref q5_7, .ref q6_8, .ref q7_9, .int 0])), (q1_3, .inl (k1_10, 8, .inl (fun _ => 0))), (q2_4, .inl (k2_11, 8, .inl (fun _ => 0))), (q3_5, .inl (k3_12, 8, .inl (fun _ => 0))), (q4_6, .inl (k4_13, 8, .inl (fun _ => 0))), (q5_7, .inl (k5_14, 8, .inl (fun _ => 0))), (q6_8, .inl (k6_15, 8, .inl (fun _ => 0))), (q7_9, .inl (k7_16, 8, .inl (fun _ => 0))), (a_17, .inr (2, [.ref q1_19, .ref q2_20, .ref q3_21, .int 0, .int (-1), .int (-1)])), (a_22, .inr (4, [.ref f0_24, .ref n0_25, .ref y0_26, .int 0, .int 0, .int 0, .int 45])), (f0_24, .inr (3, [.ref a_1, .ref a_17, .ref q1_27, .ref q2_28, .ref q3_29, .ref q4_30, .ref q5_31, .int 0, .int 0])), (a_32, .inr (4, [.ref f0_34, .ref n0_35, .ref y0_36, .int 0, .int 0, .int 0, .int 45])), (f0_34, .inr (3, [.ref a_1, .ref a_17, .ref q1_37, .ref q2_38, .ref q3_39, .ref q4_40, .ref q5_41, .int 0, .int 0])), (a_44, .inr (8, [.null, .null, .null, .int 0]))] H := hP
  have hD : va_D A [(h0, .inr (10, [.ref a_1, .ref a_17, .ref a_22, .ref a_32, .ref a_42, .null, .null, .null])), (a_1, .inr (7, [.ref q1_3, .ref q2_4, .ref q3_5, .ref q4_6, .ref q5_7, .ref q6_8, .ref q7_9, .int 0])), (q1_3, .inl (k1_10, 8, .inl (fun _ => 0))), (q2_4, .inl (k2_11, 8, .inl (fun _ => 0))), (q3_5, .inl (k3_12, 8, .inl (fun _ => 0))), (q4_6, .inl (k4_13, 8, .inl (fun _ => 0))), (q5_7, .inl (k5_14, 8, .inl (fun _ => 0))), (q6_8, .inl (k6_15, 8, .inl (fun _ => 0))), (q7_9, .inl (k7_16, 8, .inl (fun _ => 0))), (a_17, .inr (2, [.ref q1_19, .ref q2_20, .ref q3_21, .int 0, .int (-1), .int (-1)])), (a_22, .inr (4, [.ref f0_24, .ref n0_25, .ref y0_26, .int 0, .int 0, .int 0, .int 45])), (f0_24, .inr (3, [.ref a_1, .ref a_17, .ref q1_27, .ref q2_28, .ref q3_29, .ref q4_30, .ref q5_31, .int 0, .int 0])), (a_32, .inr (4, [.ref f0_34, .ref n0_35, .ref y0_36, .int 0, .int 0, .int 0, .int 45])), (f0_34, .inr (3, [.ref a_1, .ref a_17, .ref q1_37, .ref q2_38, .ref q3_39, .ref q4_40, .ref q5_41, .int 0, .int 0])), (a_44, .inr (8, [.null, .null, .null, .int 0]))] := hD
  refine W.widen (k := 59) (n := 919) (Nat.le_of_ble_eq_true rfl) (Nat.le_of_ble_eq_true rfl) ?_
  refine lv_dup hx hb dX10_init_79 rfl ?_
  have hPc := hP.sub (ws' := [(a_44, .inr (8, [.null, .null, .null, .int 0]))]) [14] rfl
  have hKc := hK.sub (tys' := []) [] rfl
  have hDc := hD.sub (ws' := [(a_44, .inr (8, [.null, .null, .null, .int 0]))]) [14] (by decide) rfl
  have hFc := va_free (wc := [(a_44, .inr (8, [.null, .null, .null, .int 0]))]) hD hS hA [14] rfl
  refine va_callv (va_runIN (As := []) (rest := [.ref a_44, .ref h0]) ⟨hx, hb, hml, hown, hq⟩ (c_Sights_init l hst tE adK adV dC dI a_44 H.size) (tcIN 0 hq q_255 q_9 q_253 q_254 rfl rfl rfl (by decide +kernel) ⟨Nat.le_of_ble_eq_true rfl, Nat.le_of_ble_eq_true rfl⟩) (pre.S (pre.of hPc hDc hKc ham hS hFc)) rfl rfl hl.1 rfl (lv_room (Nat.le_of_ble_eq_true rfl)) dX10_init_80 ⟨Nat.le_of_ble_eq_true rfl, Nat.le_of_ble_eq_true rfl⟩) hS (fun q _ h => hFc q h) hFc (fun u t H1 locs ht hvm hw hB hz1 hk1 hS => ?_)
  obtain ⟨hP, hD⟩ := va_join (wr := [(h0, .inr (10, [.ref a_1, .ref a_17, .ref a_22, .ref a_32, .ref a_42, .null, .null, .null])), (a_1, .inr (7, [.ref q1_3, .ref q2_4, .ref q3_5, .ref q4_6, .ref q5_7, .ref q6_8, .ref q7_9, .int 0])), (q1_3, .inl (k1_10, 8, .inl (fun _ => 0))), (q2_4, .inl (k2_11, 8, .inl (fun _ => 0))), (q3_5, .inl (k3_12, 8, .inl (fun _ => 0))), (q4_6, .inl (k4_13, 8, .inl (fun _ => 0))), (q5_7, .inl (k5_14, 8, .inl (fun _ => 0))), (q6_8, .inl (k6_15, 8, .inl (fun _ => 0))), (q7_9, .inl (k7_16, 8, .inl (fun _ => 0))), (a_17, .inr (2, [.ref q1_19, .ref q2_20, .ref q3_21, .int 0, .int (-1), .int (-1)])), (a_22, .inr (4, [.ref f0_24, .ref n0_25, .ref y0_26, .int 0, .int 0, .int 0, .int 45])), (f0_24, .inr (3, [.ref a_1, .ref a_17, .ref q1_27, .ref q2_28, .ref q3_29, .ref q4_30, .ref q5_31, .int 0, .int 0])), (a_32, .inr (4, [.ref f0_34, .ref n0_35, .ref y0_36, .int 0, .int 0, .int 0, .int 45])), (f0_34, .inr (3, [.ref a_1, .ref a_17, .ref q1_37, .ref q2_38, .ref q3_39, .ref q4_40, .ref q5_41, .int 0, .int 0]))]) (w1 := []) (wc := [(a_44, .inr (8, [.null, .null, .null, .int 0]))]) hP hD [14] [0, 1, 2, 3, 4, 5, 6, 7, 8, 9, 10, 11, 12, 13] rfl rfl (by decide) (by decide) hk1 hFc (fun k q h => by simp at h) ⟨fun i j p q h => by simp at h, fun k q h => by simp at h⟩
  generalize H1 = H at hP hS ⊢
  have hP : va_P (dC, dI) cls [(h0, .inr (10, [.ref a_1, .ref a_17, .ref a_22, .ref a_32, .ref a_42, .null, .null, .null])), (a_1, .inr (7, [.ref q1_3, .ref q2_4, .ref q3_5, .ref q4_6, .ref q5_7, .ref q6_8, .ref q7_9, .int 0])), (q1_3, .inl (k1_10, 8, .inl (fun _ => 0))), (q2_4, .inl (k2_11, 8, .inl (fun _ => 0))), (q3_5, .inl (k3_12, 8, .inl (fun _ => 0))), (q4_6, .inl (k4_13, 8, .inl (fun _ => 0))), (q5_7, .inl (k5_14, 8, .inl (fun _ => 0))), (q6_8, .inl (k6_15, 8, .inl (fun _ => 0))), (q7_9, .inl (k7_16, 8, .inl (fun _ => 0))), (a_17, .inr (2, [.ref q1_19, .ref q2_20, .ref q3_21, .int 0, .int (-1), .int (-1)])), (a_22, .inr (4, [.ref f0_24, .ref n0_25, .ref y0_26, .int 0, .int 0, .int 0, .int 45])), (f0_24, .inr (3, [.ref a_1, .ref a_17, .ref q1_27, .ref q2_28, .ref q3_29, .ref q4_30, .ref q5_31, .int 0, .int 0])), (a_32, .inr (4, [.ref f0_34, .ref n0_35, .ref y0_36, .int 0, .int 0, .int 0, .int 45])), (f0_34, .inr (3, [.ref a_1, .ref a_17, .ref q1_37, .ref q2_38, .ref q3_39, .ref q4_40, .ref q5_41, .int 0, .int 0]))] H := hP
  have hD : va_D A [(h0, .inr (10, [.ref a_1, .ref a_17, .ref a_22, .ref a_32, .ref a_42, .null, .null, .null])), (a_1, .inr (7, [.ref q1_3, .ref q2_4, .ref q3_5, .ref q4_6, .ref q5_7, .ref q6_8, .ref q7_9, .int 0])), (q1_3, .inl (k1_10, 8, .inl (fun _ => 0))), (q2_4, .inl (k2_11, 8, .inl (fun _ => 0))), (q3_5, .inl (k3_12, 8, .inl (fun _ => 0))), (q4_6, .inl (k4_13, 8, .inl (fun _ => 0))), (q5_7, .inl (k5_14, 8, .inl (fun _ => 0))), (q6_8, .inl (k6_15, 8, .inl (fun _ => 0))), (q7_9, .inl (k7_16, 8, .inl (fun _ => 0))), (a_17, .inr (2, [.ref q1_19, .ref q2_20, .ref q3_21, .int 0, .int (-1), .int (-1)])), (a_22, .inr (4, [.ref f0_24, .ref n0_25, .ref y0_26, .int 0, .int 0, .int 0, .int 45])), (f0_24, .inr (3, [.ref a_1, .ref a_17, .ref q1_27, .ref q2_28, .ref q3_29, .ref q4_30, .ref q5_31, .int 0, .int 0])), (a_32, .inr (4, [.ref f0_34, .ref n0_35, .ref y0_36, .int 0, .int 0, .int 0, .int 45])), (f0_34, .inr (3, [.ref a_1, .ref a_17, .ref q1_37, .ref q2_38, .ref q3_39, .ref q4_40, .ref q5_41, .int 0, .int 0]))] := hD
  have hK : va_K (dC, dI) cls [(k1_10, .char), (k2_11, .char), (k3_12, .int), (k4_13, .boolean), (k5_14, .boolean), (k6_15, .boolean), (k7_16, .int)] s := hK
  refine W.widen (k := 62) (n := 4601) (Nat.le_of_ble_eq_true rfl) (Nat.le_of_ble_eq_true rfl) ?_
  refine va_putF (D := (dC, dI)) (ci := 10) (v := .ref a_44) (ty := (.object "NightfallVillage$Sights")) (C := RX10) (T := TX10) (N := 8) hx hb hq i_X10 tyX10 tyX10_ok nmX10 hown hK hP hD hS 0 rfl rfl 5 (by decide) (hq _ q_331) (fun _ h9 => h9) rfl hin rfl (by decide +kernel) rfl rfl (Nat.le_of_ble_eq_true rfl) dX10_init_83 (fun H locs hP hD hS => ?_)
  have hP : va_P (dC, dI) cls [(h0, .inr (10, [.ref a_1, .ref a_17, .ref a_22, .ref a_32, .ref a_42, .ref a_44, .null, .null])), (a_1, .inr (7, [.ref q1_3, .ref q2_4, .ref q3_5, .ref q4_6, .ref q5_7, .ref q6_8, .ref q7_9, .int 0])), (q1_3, .inl (k1_10, 8, .inl (fun _ => 0))), (q2_4, .inl (k2_11, 8, .inl (fun _ => 0))), (q3_5, .inl (k3_12, 8, .inl (fun _ => 0))), (q4_6, .inl (k4_13, 8, .inl (fun _ => 0))), (q5_7, .inl (k5_14, 8, .inl (fun _ => 0))), (q6_8, .inl (k6_15, 8, .inl (fun _ => 0))), (q7_9, .inl (k7_16, 8, .inl (fun _ => 0))), (a_17, .inr (2, [.ref q1_19, .ref q2_20, .ref q3_21, .int 0, .int (-1), .int (-1)])), (a_22, .inr (4, [.ref f0_24, .ref n0_25, .ref y0_26, .int 0, .int 0, .int 0, .int 45])), (f0_24, .inr (3, [.ref a_1, .ref a_17, .ref q1_27, .ref q2_28, .ref q3_29, .ref q4_30, .ref q5_31, .int 0, .int 0])), (a_32, .inr (4, [.ref f0_34, .ref n0_35, .ref y0_36, .int 0, .int 0, .int 0, .int 45])), (f0_34, .inr (3, [.ref a_1, .ref a_17, .ref q1_37, .ref q2_38, .ref q3_39, .ref q4_40, .ref q5_41, .int 0, .int 0]))] H := hP
  have hD : va_D A [(h0, .inr (10, [.ref a_1, .ref a_17, .ref a_22, .ref a_32, .ref a_42, .ref a_44, .null, .null])), (a_1, .inr (7, [.ref q1_3, .ref q2_4, .ref q3_5, .ref q4_6, .ref q5_7, .ref q6_8, .ref q7_9, .int 0])), (q1_3, .inl (k1_10, 8, .inl (fun _ => 0))), (q2_4, .inl (k2_11, 8, .inl (fun _ => 0))), (q3_5, .inl (k3_12, 8, .inl (fun _ => 0))), (q4_6, .inl (k4_13, 8, .inl (fun _ => 0))), (q5_7, .inl (k5_14, 8, .inl (fun _ => 0))), (q6_8, .inl (k6_15, 8, .inl (fun _ => 0))), (q7_9, .inl (k7_16, 8, .inl (fun _ => 0))), (a_17, .inr (2, [.ref q1_19, .ref q2_20, .ref q3_21, .int 0, .int (-1), .int (-1)])), (a_22, .inr (4, [.ref f0_24, .ref n0_25, .ref y0_26, .int 0, .int 0, .int 0, .int 45])), (f0_24, .inr (3, [.ref a_1, .ref a_17, .ref q1_27, .ref q2_28, .ref q3_29, .ref q4_30, .ref q5_31, .int 0, .int 0])), (a_32, .inr (4, [.ref f0_34, .ref n0_35, .ref y0_36, .int 0, .int 0, .int 0, .int 45])), (f0_34, .inr (3, [.ref a_1, .ref a_17, .ref q1_37, .ref q2_38, .ref q3_39, .ref q4_40, .ref q5_41, .int 0, .int 0]))] := hD
  refine lv_aload_n hx hb dX10_init_86 rfl (lv_at hl 0 rfl) ?_
  refine va_new (ci := 0) (fs := [.null, .null, .null, .int 0]) (C := RX0) (T := TX0) (N := 4) hx hb hq i_X0 tyX0 tyX0_ok hown (hq _ q_271) (hq _ q_272) (hq _ q_10) hK hP hD hS hA rfl (fun j hj => by rcases (show j = 0 ∨ j = 1 ∨ j = 2 ∨ j = 3 by omega) with rfl | rfl | rfl | rfl <;> rfl) (Nat.le_of_ble_eq_true rfl) (Nat.le_of_ble_eq_true rfl) dX10_init_87 (fun a_46 H hP hD hS => ?_)
  have hP : va_P (dC, dI) cls [(h0, .inr (10, [.ref a_1, .ref a_17, .ref a_22, .ref a_32, .ref a_42, .ref a_44, .null, .null])), (a_1, .inr (7, [.ref q1_3, .ref q2_4, .ref q3_5, .ref q4_6, .ref q5_7, .ref q6_8, .ref q7_9, .int 0])), (q1_3, .inl (k1_10, 8, .inl (fun _ => 0))), (q2_4, .inl (k2_11, 8, .inl (fun _ => 0))), (q3_5, .inl (k3_12, 8, .inl (fun _ => 0))), (q4_6, .inl (k4_13, 8, .inl (fun _ => 0))), (q5_7, .inl (k5_14, 8, .inl (fun _ => 0))), (q6_8, .inl (k6_15, 8, .inl (fun _ => 0))), (q7_9, .inl (k7_16, 8, .inl (fun _ => 0))), (a_17, .inr (2, [.ref q1_19, .ref q2_20, .ref q3_21, .int 0, .int (-1), .int (-1)])), (a_22, .inr (4, [.ref f0_24, .ref n0_25, .ref y0_26, .int 0, .int 0, .int 0, .int 45])), (f0_24, .inr (3, [.ref a_1, .ref a_17, .ref q1_27, .ref q2_28, .ref q3_29, .ref q4_30, .ref q5_31, .int 0, .int 0])), (a_32, .inr (4, [.ref f0_34, .ref n0_35, .ref y0_36, .int 0, .int 0, .int 0, .int 45])), (f0_34, .inr (3, [.ref a_1, .ref a_17, .ref q1_37, .ref q2_38, .ref q3_39, .ref q4_40, .ref q5_41, .int 0, .int 0])), (a_46, .inr (0, [.null, .null, .null, .int 0]))] H := hP
  have hD : va_D A [(h0, .inr (10, [.ref a_1, .ref a_17, .ref a_22, .ref a_32, .ref a_42, .ref a_44, .null, .null])), (a_1, .inr (7, [.ref q1_3, .ref q2_4, .ref q3_5, .ref q4_6, .ref q5_7, .ref q6_8, .ref q7_9, .int 0])), (q1_3, .inl (k1_10, 8, .inl (fun _ => 0))), (q2_4, .inl (k2_11, 8, .inl (fun _ => 0))), (q3_5, .inl (k3_12, 8, .inl (fun _ => 0))), (q4_6, .inl (k4_13, 8, .inl (fun _ => 0))), (q5_7, .inl (k5_14, 8, .inl (fun _ => 0))), (q6_8, .inl (k6_15, 8, .inl (fun _ => 0))), (q7_9, .inl (k7_16, 8, .inl (fun _ => 0))), (a_17, .inr (2, [.ref q1_19, .ref q2_20, .ref q3_21, .int 0, .int (-1), .int (-1)])), (a_22, .inr (4, [.ref f0_24, .ref n0_25, .ref y0_26, .int 0, .int 0, .int 0, .int 45])), (f0_24, .inr (3, [.ref a_1, .ref a_17, .ref q1_27, .ref q2_28, .ref q3_29, .ref q4_30, .ref q5_31, .int 0, .int 0])), (a_32, .inr (4, [.ref f0_34, .ref n0_35, .ref y0_36, .int 0, .int 0, .int 0, .int 45])), (f0_34, .inr (3, [.ref a_1, .ref a_17, .ref q1_37, .ref q2_38, .ref q3_39, .ref q4_40, .ref q5_41, .int 0, .int 0])), (a_46, .inr (0, [.null, .null, .null, .int 0]))] := hD
  refine W.widen (k := 63) (n := 4605) (Nat.le_of_ble_eq_true rfl) (Nat.le_of_ble_eq_true rfl) ?_
  refine lv_dup hx hb dX10_init_90 rfl ?_
  have hPc := hP.sub (ws' := [(a_46, .inr (0, [.null, .null, .null, .int 0]))]) [14] rfl
  have hKc := hK.sub (tys' := []) [] rfl
  have hDc := hD.sub (ws' := [(a_46, .inr (0, [.null, .null, .null, .int 0]))]) [14] (by decide) rfl
  have hFc := va_free (wc := [(a_46, .inr (0, [.null, .null, .null, .int 0]))]) hD hS hA [14] rfl
  refine va_callv (va_runIN (As := []) (rest := [.ref a_46, .ref h0]) ⟨hx, hb, hml, hown, hq⟩ (c_Claims_init l hst tE adK adV dC dI a_46 H.size) (tcIN 0 hq q_275 q_10 q_273 q_274 rfl rfl rfl (by decide +kernel) ⟨Nat.le_of_ble_eq_true rfl, Nat.le_of_ble_eq_true rfl⟩) (pre.S (pre.of hPc hDc hKc ham hS hFc)) rfl rfl hl.1 rfl (lv_room (Nat.le_of_ble_eq_true rfl)) dX10_init_91 ⟨Nat.le_of_ble_eq_true rfl, Nat.le_of_ble_eq_true rfl⟩) hS (fun q _ h => hFc q h) hFc (fun u t H1 locs ht hvm hw hB hz1 hk1 hS => ?_)
  obtain ⟨hP, hD⟩ := va_join (wr := [(h0, .inr (10, [.ref a_1, .ref a_17, .ref a_22, .ref a_32, .ref a_42, .ref a_44, .null, .null])), (a_1, .inr (7, [.ref q1_3, .ref q2_4, .ref q3_5, .ref q4_6, .ref q5_7, .ref q6_8, .ref q7_9, .int 0])), (q1_3, .inl (k1_10, 8, .inl (fun _ => 0))), (q2_4, .inl (k2_11, 8, .inl (fun _ => 0))), (q3_5, .inl (k3_12, 8, .inl (fun _ => 0))), (q4_6, .inl (k4_13, 8, .inl (fun _ => 0))), (q5_7, .inl (k5_14, 8, .inl (fun _ => 0))), (q6_8, .inl (k6_15, 8, .inl (fun _ => 0))), (q7_9, .inl (k7_16, 8, .inl (fun _ => 0))), (a_17, .inr (2, [.ref q1_19, .ref q2_20, .ref q3_21, .int 0, .int (-1), .int (-1)])), (a_22, .inr (4, [.ref f0_24, .ref n0_25, .ref y0_26, .int 0, .int 0, .int 0, .int 45])), (f0_24, .inr (3, [.ref a_1, .ref a_17, .ref q1_27, .ref q2_28, .ref q3_29, .ref q4_30, .ref q5_31, .int 0, .int 0])), (a_32, .inr (4, [.ref f0_34, .ref n0_35, .ref y0_36, .int 0, .int 0, .int 0, .int 45])), (f0_34, .inr (3, [.ref a_1, .ref a_17, .ref q1_37, .ref q2_38, .ref q3_39, .ref q4_40, .ref q5_41, .int 0, .int 0]))]) (w1 := []) (wc := [(a_46, .inr (0, [.null, .null, .null, .int 0]))]) hP hD [14] [0, 1, 2, 3, 4, 5, 6, 7, 8, 9, 10, 11, 12, 13] rfl rfl (by decide) (by decide) hk1 hFc (fun k q h => by simp at h) ⟨fun i j p q h => by simp at h, fun k q h => by simp at h⟩
  generalize H1 = H at hP hS ⊢
  have hP : va_P (dC, dI) cls [(h0, .inr (10, [.ref a_1, .ref a_17, .ref a_22, .ref a_32, .ref a_42, .ref a_44, .null, .null])), (a_1, .inr (7, [.ref q1_3, .ref q2_4, .ref q3_5, .ref q4_6, .ref q5_7, .ref q6_8, .ref q7_9, .int 0])), (q1_3, .inl (k1_10, 8, .inl (fun _ => 0))), (q2_4, .inl (k2_11, 8, .inl (fun _ => 0))), (q3_5, .inl (k3_12, 8, .inl (fun _ => 0))), (q4_6, .inl (k4_13, 8, .inl (fun _ => 0))), (q5_7, .inl (k5_14, 8, .inl (fun _ => 0))), (q6_8, .inl (k6_15, 8, .inl (fun _ => 0))), (q7_9, .inl (k7_16, 8, .inl (fun _ => 0))), (a_17, .inr (2, [.ref q1_19, .ref q2_20, .ref q3_21, .int 0, .int (-1), .int (-1)])), (a_22, .inr (4, [.ref f0_24, .ref n0_25, .ref y0_26, .int 0, .int 0, .int 0, .int 45])), (f0_24, .inr (3, [.ref a_1, .ref a_17, .ref q1_27, .ref q2_28, .ref q3_29, .ref q4_30, .ref q5_31, .int 0, .int 0])), (a_32, .inr (4, [.ref f0_34, .ref n0_35, .ref y0_36, .int 0, .int 0, .int 0, .int 45])), (f0_34, .inr (3, [.ref a_1, .ref a_17, .ref q1_37, .ref q2_38, .ref q3_39, .ref q4_40, .ref q5_41, .int 0, .int 0]))] H := hP
  have hD : va_D A [(h0, .inr (10, [.ref a_1, .ref a_17, .ref a_22, .ref a_32, .ref a_42, .ref a_44, .null, .null])), (a_1, .inr (7, [.ref q1_3, .ref q2_4, .ref q3_5, .ref q4_6, .ref q5_7, .ref q6_8, .ref q7_9, .int 0])), (q1_3, .inl (k1_10, 8, .inl (fun _ => 0))), (q2_4, .inl (k2_11, 8, .inl (fun _ => 0))), (q3_5, .inl (k3_12, 8, .inl (fun _ => 0))), (q4_6, .inl (k4_13, 8, .inl (fun _ => 0))), (q5_7, .inl (k5_14, 8, .inl (fun _ => 0))), (q6_8, .inl (k6_15, 8, .inl (fun _ => 0))), (q7_9, .inl (k7_16, 8, .inl (fun _ => 0))), (a_17, .inr (2, [.ref q1_19, .ref q2_20, .ref q3_21, .int 0, .int (-1), .int (-1)])), (a_22, .inr (4, [.ref f0_24, .ref n0_25, .ref y0_26, .int 0, .int 0, .int 0, .int 45])), (f0_24, .inr (3, [.ref a_1, .ref a_17, .ref q1_27, .ref q2_28, .ref q3_29, .ref q4_30, .ref q5_31, .int 0, .int 0])), (a_32, .inr (4, [.ref f0_34, .ref n0_35, .ref y0_36, .int 0, .int 0, .int 0, .int 45])), (f0_34, .inr (3, [.ref a_1, .ref a_17, .ref q1_37, .ref q2_38, .ref q3_39, .ref q4_40, .ref q5_41, .int 0, .int 0]))] := hD
  have hK : va_K (dC, dI) cls [(k1_10, .char), (k2_11, .char), (k3_12, .int), (k4_13, .boolean), (k5_14, .boolean), (k6_15, .boolean), (k7_16, .int)] s := hK
  refine W.widen (k := 66) (n := 4695) (Nat.le_of_ble_eq_true rfl) (Nat.le_of_ble_eq_true rfl) ?_
  refine va_putF (D := (dC, dI)) (ci := 10) (v := .ref a_46) (ty := (.object "NightfallVillage$Claims")) (C := RX10) (T := TX10) (N := 8) hx hb hq i_X10 tyX10 tyX10_ok nmX10 hown hK hP hD hS 0 rfl rfl 6 (by decide) (hq _ q_332) (fun _ h9 => h9) rfl hin rfl (by decide +kernel) rfl rfl (Nat.le_of_ble_eq_true rfl) dX10_init_94 (fun H locs hP hD hS => ?_)
  have hP : va_P (dC, dI) cls [(h0, .inr (10, [.ref a_1, .ref a_17, .ref a_22, .ref a_32, .ref a_42, .ref a_44, .ref a_46, .null])), (a_1, .inr (7, [.ref q1_3, .ref q2_4, .ref q3_5, .ref q4_6, .ref q5_7, .ref q6_8, .ref q7_9, .int 0])), (q1_3, .inl (k1_10, 8, .inl (fun _ => 0))), (q2_4, .inl (k2_11, 8, .inl (fun _ => 0))), (q3_5, .inl (k3_12, 8, .inl (fun _ => 0))), (q4_6, .inl (k4_13, 8, .inl (fun _ => 0))), (q5_7, .inl (k5_14, 8, .inl (fun _ => 0))), (q6_8, .inl (k6_15, 8, .inl (fun _ => 0))), (q7_9, .inl (k7_16, 8, .inl (fun _ => 0))), (a_17, .inr (2, [.ref q1_19, .ref q2_20, .ref q3_21, .int 0, .int (-1), .int (-1)])), (a_22, .inr (4, [.ref f0_24, .ref n0_25, .ref y0_26, .int 0, .int 0, .int 0, .int 45])), (f0_24, .inr (3, [.ref a_1, .ref a_17, .ref q1_27, .ref q2_28, .ref q3_29, .ref q4_30, .ref q5_31, .int 0, .int 0])), (a_32, .inr (4, [.ref f0_34, .ref n0_35, .ref y0_36, .int 0, .int 0, .int 0, .int 45])), (f0_34, .inr (3, [.ref a_1, .ref a_17, .ref q1_37, .ref q2_38, .ref q3_39, .ref q4_40, .ref q5_41, .int 0, .int 0]))] H := hP
  have hD : va_D A [(h0, .inr (10, [.ref a_1, .ref a_17, .ref a_22, .ref a_32, .ref a_42, .ref a_44, .ref a_46, .null])), (a_1, .inr (7, [.ref q1_3, .ref q2_4, .ref q3_5, .ref q4_6, .ref q5_7, .ref q6_8, .ref q7_9, .int 0])), (q1_3, .inl (k1_10, 8, .inl (fun _ => 0))), (q2_4, .inl (k2_11, 8, .inl (fun _ => 0))), (q3_5, .inl (k3_12, 8, .inl (fun _ => 0))), (q4_6, .inl (k4_13, 8, .inl (fun _ => 0))), (q5_7, .inl (k5_14, 8, .inl (fun _ => 0))), (q6_8, .inl (k6_15, 8, .inl (fun _ => 0))), (q7_9, .inl (k7_16, 8, .inl (fun _ => 0))), (a_17, .inr (2, [.ref q1_19, .ref q2_20, .ref q3_21, .int 0, .int (-1), .int (-1)])), (a_22, .inr (4, [.ref f0_24, .ref n0_25, .ref y0_26, .int 0, .int 0, .int 0, .int 45])), (f0_24, .inr (3, [.ref a_1, .ref a_17, .ref q1_27, .ref q2_28, .ref q3_29, .ref q4_30, .ref q5_31, .int 0, .int 0])), (a_32, .inr (4, [.ref f0_34, .ref n0_35, .ref y0_36, .int 0, .int 0, .int 0, .int 45])), (f0_34, .inr (3, [.ref a_1, .ref a_17, .ref q1_37, .ref q2_38, .ref q3_39, .ref q4_40, .ref q5_41, .int 0, .int 0]))] := hD
  refine lv_aload_n hx hb dX10_init_97 rfl (lv_at hl 0 rfl) ?_
  refine va_new (ci := 9) (fs := [.null, .null, .null, .null, .null, .null, .null, .int 0, .int 0]) (C := RX9) (T := TX9) (N := 9) hx hb hq i_X9 tyX9 tyX9_ok hown (hq _ q_291) (hq _ q_292) (hq _ q_11) hK hP hD hS hA rfl (fun j hj => by rcases (show j = 0 ∨ j = 1 ∨ j = 2 ∨ j = 3 ∨ j = 4 ∨ j = 5 ∨ j = 6 ∨ j = 7 ∨ j = 8 by omega) with rfl | rfl | rfl | rfl | rfl | rfl | rfl | rfl | rfl <;> rfl) (Nat.le_of_ble_eq_true rfl) (Nat.le_of_ble_eq_true rfl) dX10_init_98 (fun a_48 H hP hD hS => ?_)
  have hP : va_P (dC, dI) cls [(h0, .inr (10, [.ref a_1, .ref a_17, .ref a_22, .ref a_32, .ref a_42, .ref a_44, .ref a_46, .null])), (a_1, .inr (7, [.ref q1_3, .ref q2_4, .ref q3_5, .ref q4_6, .ref q5_7, .ref q6_8, .ref q7_9, .int 0])), (q1_3, .inl (k1_10, 8, .inl (fun _ => 0))), (q2_4, .inl (k2_11, 8, .inl (fun _ => 0))), (q3_5, .inl (k3_12, 8, .inl (fun _ => 0))), (q4_6, .inl (k4_13, 8, .inl (fun _ => 0))), (q5_7, .inl (k5_14, 8, .inl (fun _ => 0))), (q6_8, .inl (k6_15, 8, .inl (fun _ => 0))), (q7_9, .inl (k7_16, 8, .inl (fun _ => 0))), (a_17, .inr (2, [.ref q1_19, .ref q2_20, .ref q3_21, .int 0, .int (-1), .int (-1)])), (a_22, .inr (4, [.ref f0_24, .ref n0_25, .ref y0_26, .int 0, .int 0, .int 0, .int 45])), (f0_24, .inr (3, [.ref a_1, .ref a_17, .ref q1_27, .ref q2_28, .ref q3_29, .ref q4_30, .ref q5_31, .int 0, .int 0])), (a_32, .inr (4, [.ref f0_34, .ref n0_35, .ref y0_36, .int 0, .int 0, .int 0, .int 45])), (f0_34, .inr (3, [.ref a_1, .ref a_17, .ref q1_37, .ref q2_38, .ref q3_39, .ref q4_40, .ref q5_41, .int 0, .int 0])), (a_48, .inr (9, [.null, .null, .null, .null, .null, .null, .null, .int 0, .int 0]))] H := hP
  have hD : va_D A [(h0, .inr (10, [.ref a_1, .ref a_17, .ref a_22, .ref a_32, .ref a_42, .ref a_44, .ref a_46, .null])), (a_1, .inr (7, [.ref q1_3, .ref q2_4, .ref q3_5, .ref q4_6, .ref q5_7, .ref q6_8, .ref q7_9, .int 0])), (q1_3, .inl (k1_10, 8, .inl (fun _ => 0))), (q2_4, .inl (k2_11, 8, .inl (fun _ => 0))), (q3_5, .inl (k3_12, 8, .inl (fun _ => 0))), (q4_6, .inl (k4_13, 8, .inl (fun _ => 0))), (q5_7, .inl (k5_14, 8, .inl (fun _ => 0))), (q6_8, .inl (k6_15, 8, .inl (fun _ => 0))), (q7_9, .inl (k7_16, 8, .inl (fun _ => 0))), (a_17, .inr (2, [.ref q1_19, .ref q2_20, .ref q3_21, .int 0, .int (-1), .int (-1)])), (a_22, .inr (4, [.ref f0_24, .ref n0_25, .ref y0_26, .int 0, .int 0, .int 0, .int 45])), (f0_24, .inr (3, [.ref a_1, .ref a_17, .ref q1_27, .ref q2_28, .ref q3_29, .ref q4_30, .ref q5_31, .int 0, .int 0])), (a_32, .inr (4, [.ref f0_34, .ref n0_35, .ref y0_36, .int 0, .int 0, .int 0, .int 45])), (f0_34, .inr (3, [.ref a_1, .ref a_17, .ref q1_37, .ref q2_38, .ref q3_39, .ref q4_40, .ref q5_41, .int 0, .int 0])), (a_48, .inr (9, [.null, .null, .null, .null, .null, .null, .null, .int 0, .int 0]))] := hD
  refine W.widen (k := 67) (n := 4704) (Nat.le_of_ble_eq_true rfl) (Nat.le_of_ble_eq_true rfl) ?_
  refine lv_dup hx hb dX10_init_101 rfl ?_
  refine lv_aload_n hx hb dX10_init_102 rfl (lv_at hl 0 rfl) ?_
  refine va_get (D := (dC, dI)) (ci := 10) (v := .ref a_1) (C := RX10) (T := TX10) (N := 8) hx hb hq i_X10 hown hK hP 0 rfl rfl 0 (by decide) (hq _ q_326) (fun _ h9 => h9) rfl dX10_init_103 ?_
  refine lv_aload_n hx hb dX10_init_106 rfl (lv_at hl 0 rfl) ?_
  refine va_get (D := (dC, dI)) (ci := 10) (v := .ref a_17) (C := RX10) (T := TX10) (N := 8) hx hb hq i_X10 hown hK hP 0 rfl rfl 1 (by decide) (hq _ q_327) (fun _ h9 => h9) rfl dX10_init_107 ?_
  refine lv_aload_n hx hb dX10_init_110 rfl (lv_at hl 0 rfl) ?_
  refine va_get (D := (dC, dI)) (ci := 10) (v := .ref a_22) (C := RX10) (T := TX10) (N := 8) hx hb hq i_X10 hown hK hP 0 rfl rfl 2 (by decide) (hq _ q_328) (fun _ h9 => h9) rfl dX10_init_111 ?_
  refine va_getN (D := (dC, dI)) (host := "NightfallVillage") (ci := 4) (v := .ref f0_24) (C := RX4) (T := TX4) (N := 7) hx hb hq i_X4 hown hK hP 10 rfl rfl 0 (by decide) (hq _ q_209) (fun _ h9 => h9) rfl dX10_init_114 ?_
  refine lv_aload_n hx hb dX10_init_117 rfl (lv_at hl 0 rfl) ?_
  refine va_get (D := (dC, dI)) (ci := 10) (v := .ref a_44) (C := RX10) (T := TX10) (N := 8) hx hb hq i_X10 hown hK hP 0 rfl rfl 5 (by decide) (hq _ q_331) (fun _ h9 => h9) rfl dX10_init_118 ?_
  have hPc := hP.sub (ws' := [(a_48, .inr (9, [.null, .null, .null, .null, .null, .null, .null, .int 0, .int 0]))]) [14] rfl
  have hKc := hK.sub (tys' := []) [] rfl
  have hDc := hD.sub (ws' := [(a_48, .inr (9, [.null, .null, .null, .null, .null, .null, .null, .int 0, .int 0]))]) [14] (by decide) rfl
  have hFc := va_free (wc := [(a_48, .inr (9, [.null, .null, .null, .null, .null, .null, .null, .int 0, .int 0]))]) hD hS hA [14] rfl
  refine va_callv (va_runI (As := [.ref a_1, .ref a_17, .ref f0_24, .ref a_44]) (rest := [.ref a_48, .ref h0]) ⟨hx, hb, hml, hown, hq⟩ (c_Worlds_init l hst tE adK adV dC dI a_48 a_1 a_17 f0_24 a_44 H.size) (tcI 4 hq q_295 q_11 q_293 q_294 rfl rfl rfl (by decide +kernel) ⟨Nat.le_of_ble_eq_true rfl, Nat.le_of_ble_eq_true rfl⟩) (pre.S (pre.of hPc hDc hKc ham hS hFc)) rfl rfl hl.1 rfl (lv_room (Nat.le_of_ble_eq_true rfl)) dX10_init_121 ⟨Nat.le_of_ble_eq_true rfl, Nat.le_of_ble_eq_true rfl⟩) hS (fun q _ h => hFc q h) hFc (fun u t H1 locs ht hvm hw hB hz1 hk1 hS => ?_)
  obtain ⟨hP, hD⟩ := va_join (wr := [(h0, .inr (10, [.ref a_1, .ref a_17, .ref a_22, .ref a_32, .ref a_42, .ref a_44, .ref a_46, .null])), (a_1, .inr (7, [.ref q1_3, .ref q2_4, .ref q3_5, .ref q4_6, .ref q5_7, .ref q6_8, .ref q7_9, .int 0])), (q1_3, .inl (k1_10, 8, .inl (fun _ => 0))), (q2_4, .inl (k2_11, 8, .inl (fun _ => 0))), (q3_5, .inl (k3_12, 8, .inl (fun _ => 0))), (q4_6, .inl (k4_13, 8, .inl (fun _ => 0))), (q5_7, .inl (k5_14, 8, .inl (fun _ => 0))), (q6_8, .inl (k6_15, 8, .inl (fun _ => 0))), (q7_9, .inl (k7_16, 8, .inl (fun _ => 0))), (a_17, .inr (2, [.ref q1_19, .ref q2_20, .ref q3_21, .int 0, .int (-1), .int (-1)])), (a_22, .inr (4, [.ref f0_24, .ref n0_25, .ref y0_26, .int 0, .int 0, .int 0, .int 45])), (f0_24, .inr (3, [.ref a_1, .ref a_17, .ref q1_27, .ref q2_28, .ref q3_29, .ref q4_30, .ref q5_31, .int 0, .int 0])), (a_32, .inr (4, [.ref f0_34, .ref n0_35, .ref y0_36, .int 0, .int 0, .int 0, .int 45])), (f0_34, .inr (3, [.ref a_1, .ref a_17, .ref q1_37, .ref q2_38, .ref q3_39, .ref q4_40, .ref q5_41, .int 0, .int 0]))]) (w1 := []) (wc := [(a_48, .inr (9, [.null, .null, .null, .null, .null, .null, .null, .int 0, .int 0]))]) hP hD [14] [0, 1, 2, 3, 4, 5, 6, 7, 8, 9, 10, 11, 12, 13] rfl rfl (by decide) (by decide) hk1 hFc (fun k q h => by simp at h) ⟨fun i j p q h => by simp at h, fun k q h => by simp at h⟩
  generalize H1 = H at hP hS ⊢
  have hP : va_P (dC, dI) cls [(h0, .inr (10, [.ref a_1, .ref a_17, .ref a_22, .ref a_32, .ref a_42, .ref a_44, .ref a_46, .null])), (a_1, .inr (7, [.ref q1_3, .ref q2_4, .ref q3_5, .ref q4_6, .ref q5_7, .ref q6_8, .ref q7_9, .int 0])), (q1_3, .inl (k1_10, 8, .inl (fun _ => 0))), (q2_4, .inl (k2_11, 8, .inl (fun _ => 0))), (q3_5, .inl (k3_12, 8, .inl (fun _ => 0))), (q4_6, .inl (k4_13, 8, .inl (fun _ => 0))), (q5_7, .inl (k5_14, 8, .inl (fun _ => 0))), (q6_8, .inl (k6_15, 8, .inl (fun _ => 0))), (q7_9, .inl (k7_16, 8, .inl (fun _ => 0))), (a_17, .inr (2, [.ref q1_19, .ref q2_20, .ref q3_21, .int 0, .int (-1), .int (-1)])), (a_22, .inr (4, [.ref f0_24, .ref n0_25, .ref y0_26, .int 0, .int 0, .int 0, .int 45])), (f0_24, .inr (3, [.ref a_1, .ref a_17, .ref q1_27, .ref q2_28, .ref q3_29, .ref q4_30, .ref q5_31, .int 0, .int 0])), (a_32, .inr (4, [.ref f0_34, .ref n0_35, .ref y0_36, .int 0, .int 0, .int 0, .int 45])), (f0_34, .inr (3, [.ref a_1, .ref a_17, .ref q1_37, .ref q2_38, .ref q3_39, .ref q4_40, .ref q5_41, .int 0, .int 0]))] H := hP
  have hD : va_D A [(h0, .inr (10, [.ref a_1, .ref a_17, .ref a_22, .ref a_32, .ref a_42, .ref a_44, .ref a_46, .null])), (a_1, .inr (7, [.ref q1_3, .ref q2_4, .ref q3_5, .ref q4_6, .ref q5_7, .ref q6_8, .ref q7_9, .int 0])), (q1_3, .inl (k1_10, 8, .inl (fun _ => 0))), (q2_4, .inl (k2_11, 8, .inl (fun _ => 0))), (q3_5, .inl (k3_12, 8, .inl (fun _ => 0))), (q4_6, .inl (k4_13, 8, .inl (fun _ => 0))), (q5_7, .inl (k5_14, 8, .inl (fun _ => 0))), (q6_8, .inl (k6_15, 8, .inl (fun _ => 0))), (q7_9, .inl (k7_16, 8, .inl (fun _ => 0))), (a_17, .inr (2, [.ref q1_19, .ref q2_20, .ref q3_21, .int 0, .int (-1), .int (-1)])), (a_22, .inr (4, [.ref f0_24, .ref n0_25, .ref y0_26, .int 0, .int 0, .int 0, .int 45])), (f0_24, .inr (3, [.ref a_1, .ref a_17, .ref q1_27, .ref q2_28, .ref q3_29, .ref q4_30, .ref q5_31, .int 0, .int 0])), (a_32, .inr (4, [.ref f0_34, .ref n0_35, .ref y0_36, .int 0, .int 0, .int 0, .int 45])), (f0_34, .inr (3, [.ref a_1, .ref a_17, .ref q1_37, .ref q2_38, .ref q3_39, .ref q4_40, .ref q5_41, .int 0, .int 0]))] := hD
  have hK : va_K (dC, dI) cls [(k1_10, .char), (k2_11, .char), (k3_12, .int), (k4_13, .boolean), (k5_14, .boolean), (k6_15, .boolean), (k7_16, .int)] s := hK
  refine W.widen (k := 70) (n := 4775) (Nat.le_of_ble_eq_true rfl) (Nat.le_of_ble_eq_true rfl) ?_
  refine va_putF (D := (dC, dI)) (ci := 10) (v := .ref a_48) (ty := (.object "NightfallVillage$Worlds")) (C := RX10) (T := TX10) (N := 8) hx hb hq i_X10 tyX10 tyX10_ok nmX10 hown hK hP hD hS 0 rfl rfl 7 (by decide) (hq _ q_333) (fun _ h9 => h9) rfl hin rfl (by decide +kernel) rfl rfl (Nat.le_of_ble_eq_true rfl) dX10_init_124 (fun H locs hP hD hS => ?_)
  have hP : va_P (dC, dI) cls [(h0, .inr (10, [.ref a_1, .ref a_17, .ref a_22, .ref a_32, .ref a_42, .ref a_44, .ref a_46, .ref a_48])), (a_1, .inr (7, [.ref q1_3, .ref q2_4, .ref q3_5, .ref q4_6, .ref q5_7, .ref q6_8, .ref q7_9, .int 0])), (q1_3, .inl (k1_10, 8, .inl (fun _ => 0))), (q2_4, .inl (k2_11, 8, .inl (fun _ => 0))), (q3_5, .inl (k3_12, 8, .inl (fun _ => 0))), (q4_6, .inl (k4_13, 8, .inl (fun _ => 0))), (q5_7, .inl (k5_14, 8, .inl (fun _ => 0))), (q6_8, .inl (k6_15, 8, .inl (fun _ => 0))), (q7_9, .inl (k7_16, 8, .inl (fun _ => 0))), (a_17, .inr (2, [.ref q1_19, .ref q2_20, .ref q3_21, .int 0, .int (-1), .int (-1)])), (a_22, .inr (4, [.ref f0_24, .ref n0_25, .ref y0_26, .int 0, .int 0, .int 0, .int 45])), (f0_24, .inr (3, [.ref a_1, .ref a_17, .ref q1_27, .ref q2_28, .ref q3_29, .ref q4_30, .ref q5_31, .int 0, .int 0])), (a_32, .inr (4, [.ref f0_34, .ref n0_35, .ref y0_36, .int 0, .int 0, .int 0, .int 45])), (f0_34, .inr (3, [.ref a_1, .ref a_17, .ref q1_37, .ref q2_38, .ref q3_39, .ref q4_40, .ref q5_41, .int 0, .int 0]))] H := hP
  have hD : va_D A [(h0, .inr (10, [.ref a_1, .ref a_17, .ref a_22, .ref a_32, .ref a_42, .ref a_44, .ref a_46, .ref a_48])), (a_1, .inr (7, [.ref q1_3, .ref q2_4, .ref q3_5, .ref q4_6, .ref q5_7, .ref q6_8, .ref q7_9, .int 0])), (q1_3, .inl (k1_10, 8, .inl (fun _ => 0))), (q2_4, .inl (k2_11, 8, .inl (fun _ => 0))), (q3_5, .inl (k3_12, 8, .inl (fun _ => 0))), (q4_6, .inl (k4_13, 8, .inl (fun _ => 0))), (q5_7, .inl (k5_14, 8, .inl (fun _ => 0))), (q6_8, .inl (k6_15, 8, .inl (fun _ => 0))), (q7_9, .inl (k7_16, 8, .inl (fun _ => 0))), (a_17, .inr (2, [.ref q1_19, .ref q2_20, .ref q3_21, .int 0, .int (-1), .int (-1)])), (a_22, .inr (4, [.ref f0_24, .ref n0_25, .ref y0_26, .int 0, .int 0, .int 0, .int 45])), (f0_24, .inr (3, [.ref a_1, .ref a_17, .ref q1_27, .ref q2_28, .ref q3_29, .ref q4_30, .ref q5_31, .int 0, .int 0])), (a_32, .inr (4, [.ref f0_34, .ref n0_35, .ref y0_36, .int 0, .int 0, .int 0, .int 45])), (f0_34, .inr (3, [.ref a_1, .ref a_17, .ref q1_37, .ref q2_38, .ref q3_39, .ref q4_40, .ref q5_41, .int 0, .int 0]))] := hD
  refine W.widen (k := 70) (n := 4775) (Nat.le_of_ble_eq_true rfl) (Nat.le_of_ble_eq_true rfl) ?_
  have hP9 := hP.sub (ws' := [(h0, .inr (10, [.ref a_1, .ref a_17, .ref a_22, .ref a_32, .ref a_42, .ref a_44, .ref a_46, .ref a_48])), (a_1, .inr (7, [.ref q1_3, .ref q2_4, .ref q3_5, .ref q4_6, .ref q5_7, .ref q6_8, .ref q7_9, .int 0])), (q1_3, .inl (k1_10, 8, .inl (fun _ => 0))), (q2_4, .inl (k2_11, 8, .inl (fun _ => 0))), (q3_5, .inl (k3_12, 8, .inl (fun _ => 0))), (q4_6, .inl (k4_13, 8, .inl (fun _ => 0))), (q5_7, .inl (k5_14, 8, .inl (fun _ => 0))), (q6_8, .inl (k6_15, 8, .inl (fun _ => 0))), (q7_9, .inl (k7_16, 8, .inl (fun _ => 0))), (a_17, .inr (2, [.ref q1_19, .ref q2_20, .ref q3_21, .int 0, .int (-1), .int (-1)])), (a_22, .inr (4, [.ref f0_24, .ref n0_25, .ref y0_26, .int 0, .int 0, .int 0, .int 45])), (f0_24, .inr (3, [.ref a_1, .ref a_17, .ref q1_27, .ref q2_28, .ref q3_29, .ref q4_30, .ref q5_31, .int 0, .int 0]))]) [0, 1, 2, 3, 4, 5, 6, 7, 8, 9, 10, 11] rfl
  have hD9 := hD.sub (ws' := [(h0, .inr (10, [.ref a_1, .ref a_17, .ref a_22, .ref a_32, .ref a_42, .ref a_44, .ref a_46, .ref a_48])), (a_1, .inr (7, [.ref q1_3, .ref q2_4, .ref q3_5, .ref q4_6, .ref q5_7, .ref q6_8, .ref q7_9, .int 0])), (q1_3, .inl (k1_10, 8, .inl (fun _ => 0))), (q2_4, .inl (k2_11, 8, .inl (fun _ => 0))), (q3_5, .inl (k3_12, 8, .inl (fun _ => 0))), (q4_6, .inl (k4_13, 8, .inl (fun _ => 0))), (q5_7, .inl (k5_14, 8, .inl (fun _ => 0))), (q6_8, .inl (k6_15, 8, .inl (fun _ => 0))), (q7_9, .inl (k7_16, 8, .inl (fun _ => 0))), (a_17, .inr (2, [.ref q1_19, .ref q2_20, .ref q3_21, .int 0, .int (-1), .int (-1)])), (a_22, .inr (4, [.ref f0_24, .ref n0_25, .ref y0_26, .int 0, .int 0, .int 0, .int 45])), (f0_24, .inr (3, [.ref a_1, .ref a_17, .ref q1_27, .ref q2_28, .ref q3_29, .ref q4_30, .ref q5_31, .int 0, .int 0]))]) [0, 1, 2, 3, 4, 5, 6, 7, 8, 9, 10, 11] (by decide) rfl
  have hK9 := hK.sub (tys' := [(k1_10, .char), (k2_11, .char), (k3_12, .int), (k4_13, .boolean), (k5_14, .boolean), (k6_15, .boolean), (k7_16, .int)]) [0, 1, 2, 3, 4, 5, 6] rfl
  exact W.vret hx hb hr (fun t ht hW => ⟨⟨(), rfl, trivial, ⟨a_1, a_17, a_22, a_32, a_42, a_44, a_46, a_48, q1_3, q2_4, q3_5, q4_6, q5_7, q6_8, q7_9, k1_10, k2_11, k3_12, k4_13, k5_14, k6_15, k7_16, q1_19, q2_20, q3_21, f0_24, n0_25, y0_26, q1_27, q2_28, q3_29, q4_30, q5_31, by rw [ht]; exact hP9, va_K.moved hW.alike hK9, hD9⟩⟩, hS.F ht⟩) hS.2.2 dX10_init_127
end
section
def RJxa1e45 : String := "java/util/AbstractCollection"
abbrev cJxa1e45_init_da8c8 : ByteArray := prog_38_method_1_code
def yJxa1e45_init_da8c8 : MethodName := ⟨RJxa1e45, "<init>", "()V"⟩
theorem dJxa1e45_init_da8c8_0 : decode cJxa1e45_init_da8c8 0 = .ok (.aload_n 0, 1) := by decide +kernel
theorem dJxa1e45_init_da8c8_1 : decode cJxa1e45_init_da8c8 1 = .ok (.invokespecial 1, 3) := by decide +kernel
theorem q_1282 : (Cond.methodLink "java/util/AbstractCollection" 1 objectInit) ∈ tw := tw_in (i := 1282) (by decide +kernel) (by decide +kernel)
theorem dJxa1e45_init_da8c8_4 : decode cJxa1e45_init_da8c8 4 = .ok (.return_, 1) := by decide +kernel
set_option maxHeartbeats 4000000 in
set_option maxRecDepth 100000 in
theorem c_AC_init (l : Launch) (hst : l.stackTraces = false) (tE : Nat) (adK adV : Nat → Nat) (dC : Nat → ClassId) (dI : Nat → Nat → Nat) (h0 : Nat) (sz : Nat) : Met l yJxa1e45_init_da8c8 (Cond.code yJxa1e45_init_da8c8 cJxa1e45_init_da8c8 1 none :: tw) ({ frames := 1, cells := 0, slots := 0, locals := 12 }) (va_Pc [.ref h0] (pre tE adK adV (dC, dI) [(h0, .inr (14, [.int 0, .null, .int 0]))] [] sz)) (va_Qv (fun (_ : Unit) => True) (fun (_ : Unit) (t : State) => va_P (dC, dI) cls [(h0, .inr (14, [.int 0, .null, .int 0]))] t.heap ∧ va_K (dC, dI) cls [] t ∧ va_D (va_A [(h0, .inr (14, [.int 0, .null, .int 0]))] sz) [(h0, .inr (14, [.int 0, .null, .int 0]))]) (va_A [(h0, .inr (14, [.int 0, .null, .int 0]))] sz)) 0 0 (va_A [(h0, .inr (14, [.int 0, .null, .int 0]))] sz) := by
  refine Met.ofW (cc := cJxa1e45_init_da8c8) (maxL := 1) (ret := none) (by decide) rfl ?_
  intro p e s m args below meth c s₁ B hml hv
  obtain ⟨rfl, hsz, hP, hK, hD0, ham⟩ := hv
  have hx := B.exec
  have hb := B.bytes
  have hr := B.returns
  have hts := atoms_spec B.pre
  have hq : ∀ w ∈ tw, w.before _ s = true := fun w h => hts w (List.mem_cons_of_mem _ h)
  have hown : s.vm.findClass RJxa1e45 = some m.cls := findClass_of_methodNamed B.named
  have hlocks := B.notSynchronized
  have hin : meth.name = "<init>" := (name_of_methodNamed B.named B.method).1
  subst hsz
  have hD := hD0.self (sz := s.heap.size)
  generalize hAe : va_A [(h0, .inr (14, [.int 0, .null, .int 0]))] s.heap.size = A at hD ham ⊢
  have hA : ∀ q : Nat, s.heap.size ≤ q → A q := fun q h => by rw [← hAe]; exact Or.inr h
  have hS : va_S A s.heap s.heap [] := va_S.rf
  have hP : va_P (dC, dI) cls [(h0, .inr (14, [.int 0, .null, .int 0]))] s.heap := hP
  have hl := lv_entry ([.ref h0]) (n := 1) (Nat.le_of_ble_eq_true rfl)
  rw [lg_entry_eq]
  generalize (lg_sl ([.ref h0]) ++ List.replicate (1 - (lg_sl ([.ref h0])).length) Slot.unset).toArray = ls at hl ⊢
  have hl : lv_has ls 1 [(0, .ref h0)] := hl
  refine lv_aload_n hx hb dJxa1e45_init_da8c8_0 rfl (lv_at hl 0 rfl) ?_
  refine W.objInit hx hb hown (hq _ q_1282) (hq _ q_45) (hq _ q_46) rfl (by rw [hml]; exact hl.1) rfl dJxa1e45_init_da8c8_1 (Nat.le_of_ble_eq_true rfl) (Nat.le_of_ble_eq_true rfl) ?_
  refine W.eq (g2 := F0 m 4 ls []) rfl ?_
  refine W.widen (k := 0) (n := 0) (Nat.le_of_ble_eq_true rfl) (Nat.le_of_ble_eq_true rfl) ?_
  have hP9 := hP.sub (ws' := [(h0, .inr (14, [.int 0, .null, .int 0]))]) [0] rfl
  have hD9 := hD.sub (ws' := [(h0, .inr (14, [.int 0, .null, .int 0]))]) [0] (by decide) rfl
  have hK9 := hK.sub (tys' := []) [] rfl
  exact W.vret hx hb hr (fun t ht hW => ⟨⟨(), rfl, trivial, ⟨by rw [ht]; exact hP9, va_K.moved hW.alike hK9, hD9⟩⟩, hS.F ht⟩) hS.2.2 dJxa1e45_init_da8c8_4
def RJxc12de : String := "java/util/AbstractList"
abbrev cJxc12de_init_da8c8 : ByteArray := prog_39_method_1_code
def yJxc12de_init_da8c8 : MethodName := ⟨RJxc12de, "<init>", "()V"⟩
theorem dJxc12de_init_da8c8_0 : decode cJxc12de_init_da8c8 0 = .ok (.aload_n 0, 1) := by decide +kernel
theorem dJxc12de_init_da8c8_1 : decode cJxc12de_init_da8c8 1 = .ok (.invokespecial 1, 3) := by decide +kernel
theorem q_1281 : (Cond.code yJxa1e45_init_da8c8 cJxa1e45_init_da8c8 1 none) ∈ tw := tw_in (i := 1281) (by decide +kernel) (by decide +kernel)
theorem q_13 : (Cond.initialized "java/util/AbstractCollection") ∈ tw := tw_in (i := 13) (by decide +kernel) (by decide +kernel)
theorem q_1279 : (Cond.methodLink "java/util/AbstractList" 1 yJxa1e45_init_da8c8) ∈ tw := tw_in (i := 1279) (by decide +kernel) (by decide +kernel)
theorem q_1280 : (Cond.instanceMethod yJxa1e45_init_da8c8) ∈ tw := tw_in (i := 1280) (by decide +kernel) (by decide +kernel)
theorem dJxc12de_init_da8c8_4 : decode cJxc12de_init_da8c8 4 = .ok (.aload_n 0, 1) := by decide +kernel
theorem dJxc12de_init_da8c8_5 : decode cJxc12de_init_da8c8 5 = .ok (.iconst 0, 1) := by decide +kernel
theorem dJxc12de_init_da8c8_6 : decode cJxc12de_init_da8c8 6 = .ok (.putfield 7, 3) := by decide +kernel
theorem q_1289 : (Cond.fieldLink "java/util/AbstractList" 7 "java/util/AbstractList" "modCount" "I") ∈ tw := tw_in (i := 1289) (by decide +kernel) (by decide +kernel)
theorem dJxc12de_init_da8c8_9 : decode cJxc12de_init_da8c8 9 = .ok (.return_, 1) := by decide +kernel
set_option maxHeartbeats 4000000 in
set_option maxRecDepth 100000 in
theorem c_AbL_init (l : Launch) (hst : l.stackTraces = false) (tE : Nat) (adK adV : Nat → Nat) (dC : Nat → ClassId) (dI : Nat → Nat → Nat) (h0 : Nat) (sz : Nat) : Met l yJxc12de_init_da8c8 (Cond.code yJxc12de_init_da8c8 cJxc12de_init_da8c8 1 none :: tw) ({ frames := 2, cells := 0, slots := 0, locals := 32 }) (va_Pc [.ref h0] (pre tE adK adV (dC, dI) [(h0, .inr (14, [.int 0, .null, .int 0]))] [] sz)) (va_Qv (fun (_ : Unit) => True) (fun (_ : Unit) (t : State) => va_P (dC, dI) cls [(h0, .inr (14, [.int 0, .null, .int 0]))] t.heap ∧ va_K (dC, dI) cls [] t ∧ va_D (va_A [(h0, .inr (14, [.int 0, .null, .int 0]))] sz) [(h0, .inr (14, [.int 0, .null, .int 0]))]) (va_A [(h0, .inr (14, [.int 0, .null, .int 0]))] sz)) 0 0 (va_A [(h0, .inr (14, [.int 0, .null, .int 0]))] sz) := by
  refine Met.ofW (cc := cJxc12de_init_da8c8) (maxL := 1) (ret := none) (by decide) rfl ?_
  intro p e s m args below meth c s₁ B hml hv
  obtain ⟨rfl, hsz, hP, hK, hD0, ham⟩ := hv
  have hx := B.exec
  have hb := B.bytes
  have hr := B.returns
  have hts := atoms_spec B.pre
  have hq : ∀ w ∈ tw, w.before _ s = true := fun w h => hts w (List.mem_cons_of_mem _ h)
  have hown : s.vm.findClass RJxc12de = some m.cls := findClass_of_methodNamed B.named
  have hlocks := B.notSynchronized
  have hin : meth.name = "<init>" := (name_of_methodNamed B.named B.method).1
  subst hsz
  have hD := hD0.self (sz := s.heap.size)
  generalize hAe : va_A [(h0, .inr (14, [.int 0, .null, .int 0]))] s.heap.size = A at hD ham ⊢
  have hA : ∀ q : Nat, s.heap.size ≤ q → A q := fun q h => by rw [← hAe]; exact Or.inr h
  have hS : va_S A s.heap s.heap [] := va_S.rf
  have hP : va_P (dC, dI) cls [(h0, .inr (14, [.int 0, .null, .int 0]))] s.heap := hP
  have hl := lv_entry ([.ref h0]) (n := 1) (Nat.le_of_ble_eq_true rfl)
  rw [lg_entry_eq]
  generalize (lg_sl ([.ref h0]) ++ List.replicate (1 - (lg_sl ([.ref h0])).length) Slot.unset).toArray = ls at hl ⊢
  have hl : lv_has ls 1 [(0, .ref h0)] := hl
  refine lv_aload_n hx hb dJxc12de_init_da8c8_0 rfl (lv_at hl 0 rfl) ?_
  have hPc := hP.sub (ws' := [(h0, .inr (14, [.int 0, .null, .int 0]))]) [0] rfl
  have hKc := hK.sub (tys' := []) [] rfl
  have hDc := hD.sub (ws' := [(h0, .inr (14, [.int 0, .null, .int 0]))]) [0] (by decide) rfl
  have hFc := va_free (wc := [(h0, .inr (14, [.int 0, .null, .int 0]))]) hD hS hA [0] rfl
  refine va_callv (va_runI (As := []) (rest := []) ⟨hx, hb, hml, hown, hq⟩ (c_AC_init l hst tE adK adV dC dI h0 s.heap.size) (tcI 0 hq q_1281 q_13 q_1279 q_1280 rfl rfl rfl (by decide +kernel) ⟨Nat.le_of_ble_eq_true rfl, Nat.le_of_ble_eq_true rfl⟩) (pre.S (pre.of hPc hDc hKc ham hS hFc)) rfl rfl hl.1 rfl (lv_room (Nat.le_of_ble_eq_true rfl)) dJxc12de_init_da8c8_1 ⟨Nat.le_of_ble_eq_true rfl, Nat.le_of_ble_eq_true rfl⟩) hS (fun q _ h => hFc q h) hFc (fun u t H1 locs ht hvm hw hB hz1 hk1 hS => ?_)
  obtain ⟨hP1, hK1, hD1⟩ := hB
  rw [ht] at hP1
  have hK1 := va_K.moved hvm.symm hK1
  obtain ⟨hP, hD⟩ := va_join (wr := []) (w1 := [(h0, .inr (14, [.int 0, .null, .int 0]))]) (wc := [(h0, .inr (14, [.int 0, .null, .int 0]))]) hP hD [0] [] rfl rfl (by decide) (by decide) hk1 hFc hP1 hD1
  have hK := (hK.sub (tys' := []) [] rfl).app hK1
  generalize H1 = H at hP hS ⊢
  have hP : va_P (dC, dI) cls [(h0, .inr (14, [.int 0, .null, .int 0]))] H := hP
  have hD : va_D A [(h0, .inr (14, [.int 0, .null, .int 0]))] := hD
  have hK : va_K (dC, dI) cls [] s := hK
  refine W.widen (k := 0) (n := 0) (Nat.le_of_ble_eq_true rfl) (Nat.le_of_ble_eq_true rfl) ?_
  refine lv_aload_n hx hb dJxc12de_init_da8c8_4 rfl (lv_at hl 0 rfl) ?_
  refine lv_iconst (v := 0) hx hb dJxc12de_init_da8c8_5 (by decide) ?_
  refine va_put (D := (dC, dI)) (ci := 14) (v := .int 0) (ty := .int) (C := RJx4a65c) (T := TJx4a65c) (N := 3) hx hb hq i_Jx4a65c tyJx4a65c tyJx4a65c_ok nmJx4a65c hown hK hP hD hS 0 rfl rfl 0 (by decide) (hq _ q_1289) (fun _ h9 => h9) rfl (by decide +kernel) rfl rfl (Nat.le_of_ble_eq_true rfl) dJxc12de_init_da8c8_6 (fun H locs hP hD hS => ?_)
  have hP : va_P (dC, dI) cls [(h0, .inr (14, [.int 0, .null, .int 0]))] H := hP
  have hD : va_D A [(h0, .inr (14, [.int 0, .null, .int 0]))] := hD
  refine W.widen (k := 0) (n := 0) (Nat.le_of_ble_eq_true rfl) (Nat.le_of_ble_eq_true rfl) ?_
  have hP9 := hP.sub (ws' := [(h0, .inr (14, [.int 0, .null, .int 0]))]) [0] rfl
  have hD9 := hD.sub (ws' := [(h0, .inr (14, [.int 0, .null, .int 0]))]) [0] (by decide) rfl
  have hK9 := hK.sub (tys' := []) [] rfl
  exact W.vret hx hb hr (fun t ht hW => ⟨⟨(), rfl, trivial, ⟨by rw [ht]; exact hP9, va_K.moved hW.alike hK9, hD9⟩⟩, hS.F ht⟩) hS.2.2 dJxc12de_init_da8c8_9
abbrev cJx4a65c_init_da8c8 : ByteArray := prog_40_method_2_code
def yJx4a65c_init_da8c8 : MethodName := ⟨RJx4a65c, "<init>", "()V"⟩
theorem dJx4a65c_init_da8c8_0 : decode cJx4a65c_init_da8c8 0 = .ok (.aload_n 0, 1) := by decide +kernel
theorem dJx4a65c_init_da8c8_1 : decode cJx4a65c_init_da8c8 1 = .ok (.invokespecial 1, 3) := by decide +kernel
theorem q_1278 : (Cond.code yJxc12de_init_da8c8 cJxc12de_init_da8c8 1 none) ∈ tw := tw_in (i := 1278) (by decide +kernel) (by decide +kernel)
theorem q_14 : (Cond.initialized "java/util/AbstractList") ∈ tw := tw_in (i := 14) (by decide +kernel) (by decide +kernel)
theorem q_1276 : (Cond.methodLink "java/util/ArrayList" 1 yJxc12de_init_da8c8) ∈ tw := tw_in (i := 1276) (by decide +kernel) (by decide +kernel)
theorem q_1277 : (Cond.instanceMethod yJxc12de_init_da8c8) ∈ tw := tw_in (i := 1277) (by decide +kernel) (by decide +kernel)
theorem dJx4a65c_init_da8c8_4 : decode cJx4a65c_init_da8c8 4 = .ok (.aload_n 0, 1) := by decide +kernel
theorem dJx4a65c_init_da8c8_5 : decode cJx4a65c_init_da8c8 5 = .ok (.getstatic 39, 3) := by decide +kernel
theorem q_1283 : (Cond.fieldLink "java/util/ArrayList" 39 "java/util/ArrayList" "DEFAULTCAPACITY_EMPTY_ELEMENTDATA" "[Ljava/lang/Object;") ∈ tw := tw_in (i := 1283) (by decide +kernel) (by decide +kernel)
theorem dJx4a65c_init_da8c8_8 : decode cJx4a65c_init_da8c8 8 = .ok (.putfield 9, 3) := by decide +kernel
theorem q_1285 : (Cond.fieldLink "java/util/ArrayList" 9 "java/util/ArrayList" "elementData" "[Ljava/lang/Object;") ∈ tw := tw_in (i := 1285) (by decide +kernel) (by decide +kernel)
theorem dJx4a65c_init_da8c8_11 : decode cJx4a65c_init_da8c8 11 = .ok (.return_, 1) := by decide +kernel
set_option maxHeartbeats 4000000 in
set_option maxRecDepth 100000 in
theorem c_AL_init (l : Launch) (hst : l.stackTraces = false) (tE : Nat) (adK adV : Nat → Nat) (dC : Nat → ClassId) (dI : Nat → Nat → Nat) (h0 : Nat) (sz : Nat) : Met l yJx4a65c_init_da8c8 (Cond.code yJx4a65c_init_da8c8 cJx4a65c_init_da8c8 1 none :: tw) ({ frames := 3, cells := 0, slots := 0, locals := 52 }) (va_Pc [.ref h0] (pre tE adK adV (dC, dI) [(h0, .inr (14, [.int 0, .null, .int 0]))] [] sz)) (va_Qv (fun (_ : Unit) => True) (fun (_ : Unit) (t : State) => va_P (dC, dI) cls [(h0, .inr (14, [.int 0, .ref tE, .int 0]))] t.heap ∧ va_K (dC, dI) cls [] t ∧ va_D (va_A [(h0, .inr (14, [.int 0, .null, .int 0]))] sz) [(h0, .inr (14, [.int 0, .ref tE, .int 0]))]) (va_A [(h0, .inr (14, [.int 0, .null, .int 0]))] sz)) 0 0 (va_A [(h0, .inr (14, [.int 0, .null, .int 0]))] sz) := by
  refine Met.ofW (cc := cJx4a65c_init_da8c8) (maxL := 1) (ret := none) (by decide) rfl ?_
  intro p e s m args below meth c s₁ B hml hv
  obtain ⟨rfl, hsz, hP, hK, hD0, ham⟩ := hv
  have hx := B.exec
  have hb := B.bytes
  have hr := B.returns
  have hts := atoms_spec B.pre
  have hq : ∀ w ∈ tw, w.before _ s = true := fun w h => hts w (List.mem_cons_of_mem _ h)
  have hown : s.vm.findClass RJx4a65c = some m.cls := findClass_of_methodNamed B.named
  have hlocks := B.notSynchronized
  have hin : meth.name = "<init>" := (name_of_methodNamed B.named B.method).1
  subst hsz
  have hD := hD0.self (sz := s.heap.size)
  generalize hAe : va_A [(h0, .inr (14, [.int 0, .null, .int 0]))] s.heap.size = A at hD ham ⊢
  have hA : ∀ q : Nat, s.heap.size ≤ q → A q := fun q h => by rw [← hAe]; exact Or.inr h
  have hS : va_S A s.heap s.heap [] := va_S.rf
  have hP : va_P (dC, dI) cls [(h0, .inr (14, [.int 0, .null, .int 0]))] s.heap := hP
  have hl := lv_entry ([.ref h0]) (n := 1) (Nat.le_of_ble_eq_true rfl)
  rw [lg_entry_eq]
  generalize (lg_sl ([.ref h0]) ++ List.replicate (1 - (lg_sl ([.ref h0])).length) Slot.unset).toArray = ls at hl ⊢
  have hl : lv_has ls 1 [(0, .ref h0)] := hl
  refine lv_aload_n hx hb dJx4a65c_init_da8c8_0 rfl (lv_at hl 0 rfl) ?_
  have hPc := hP.sub (ws' := [(h0, .inr (14, [.int 0, .null, .int 0]))]) [0] rfl
  have hKc := hK.sub (tys' := []) [] rfl
  have hDc := hD.sub (ws' := [(h0, .inr (14, [.int 0, .null, .int 0]))]) [0] (by decide) rfl
  have hFc := va_free (wc := [(h0, .inr (14, [.int 0, .null, .int 0]))]) hD hS hA [0] rfl
  refine va_callv (va_runI (As := []) (rest := []) ⟨hx, hb, hml, hown, hq⟩ (c_AbL_init l hst tE adK adV dC dI h0 s.heap.size) (tcI 0 hq q_1278 q_14 q_1276 q_1277 rfl rfl rfl (by decide +kernel) ⟨Nat.le_of_ble_eq_true rfl, Nat.le_of_ble_eq_true rfl⟩) (pre.S (pre.of hPc hDc hKc ham hS hFc)) rfl rfl hl.1 rfl (lv_room (Nat.le_of_ble_eq_true rfl)) dJx4a65c_init_da8c8_1 ⟨Nat.le_of_ble_eq_true rfl, Nat.le_of_ble_eq_true rfl⟩) hS (fun q _ h => hFc q h) hFc (fun u t H1 locs ht hvm hw hB hz1 hk1 hS => ?_)
  obtain ⟨hP1, hK1, hD1⟩ := hB
  rw [ht] at hP1
  have hK1 := va_K.moved hvm.symm hK1
  obtain ⟨hP, hD⟩ := va_join (wr := []) (w1 := [(h0, .inr (14, [.int 0, .null, .int 0]))]) (wc := [(h0, .inr (14, [.int 0, .null, .int 0]))]) hP hD [0] [] rfl rfl (by decide) (by decide) hk1 hFc hP1 hD1
  have hK := (hK.sub (tys' := []) [] rfl).app hK1
  generalize H1 = H at hP hS ⊢
  have hP : va_P (dC, dI) cls [(h0, .inr (14, [.int 0, .null, .int 0]))] H := hP
  have hD : va_D A [(h0, .inr (14, [.int 0, .null, .int 0]))] := hD
  have hK : va_K (dC, dI) cls [] s := hK
  refine W.widen (k := 0) (n := 0) (Nat.le_of_ble_eq_true rfl) (Nat.le_of_ble_eq_true rfl) ?_
  refine lv_aload_n hx hb dJx4a65c_init_da8c8_4 rfl (lv_at hl 0 rfl) ?_
  refine va_gets hx hb ham.2.2.1.1 hS hown (hq _ q_1283) (fun _ h9 => h9) dJx4a65c_init_da8c8_5 ?_
  refine va_put (D := (dC, dI)) (ci := 14) (v := .ref tE) (ty := (.array (.object "java/lang/Object"))) (C := RJx4a65c) (T := TJx4a65c) (N := 3) hx hb hq i_Jx4a65c tyJx4a65c tyJx4a65c_ok nmJx4a65c hown hK hP hD hS 0 rfl rfl 1 (by decide) (hq _ q_1285) (fun _ h9 => h9) rfl (by decide +kernel) rfl rfl (Nat.le_of_ble_eq_true rfl) dJx4a65c_init_da8c8_8 (fun H locs hP hD hS => ?_)
  have hP : va_P (dC, dI) cls [(h0, .inr (14, [.int 0, .ref tE, .int 0]))] H := hP
  have hD : va_D A [(h0, .inr (14, [.int 0, .ref tE, .int 0]))] := hD
  refine W.widen (k := 0) (n := 0) (Nat.le_of_ble_eq_true rfl) (Nat.le_of_ble_eq_true rfl) ?_
  have hP9 := hP.sub (ws' := [(h0, .inr (14, [.int 0, .ref tE, .int 0]))]) [0] rfl
  have hD9 := hD.sub (ws' := [(h0, .inr (14, [.int 0, .ref tE, .int 0]))]) [0] (by decide) rfl
  have hK9 := hK.sub (tys' := []) [] rfl
  exact W.vret hx hb hr (fun t ht hW => ⟨⟨(), rfl, trivial, ⟨by rw [ht]; exact hP9, va_K.moved hW.alike hK9, hD9⟩⟩, hS.F ht⟩) hS.2.2 dJx4a65c_init_da8c8_11
def RJ7 : String := "java/util/Arrays"
abbrev cJ7_fill_53178 : ByteArray := prog_42_method_103_code
def yJ7_fill_53178 : MethodName := ⟨RJ7, "fill", "([II)V"⟩
theorem dJ7_fill_53178_0 : decode cJ7_fill_53178 0 = .ok (.iconst 0, 1) := by decide +kernel
theorem dJ7_fill_53178_1 : decode cJ7_fill_53178 1 = .ok (.istore_n 2, 1) := by decide +kernel
theorem dJ7_fill_53178_2 : decode cJ7_fill_53178 2 = .ok (.aload_n 0, 1) := by decide +kernel
theorem dJ7_fill_53178_3 : decode cJ7_fill_53178 3 = .ok (.arraylength, 1) := by decide +kernel
theorem dJ7_fill_53178_4 : decode cJ7_fill_53178 4 = .ok (.istore_n 3, 1) := by decide +kernel
theorem dJ7_fill_53178_5 : decode cJ7_fill_53178 5 = .ok (.iload_n 2, 1) := by decide +kernel
theorem dJ7_fill_53178_6 : decode cJ7_fill_53178 6 = .ok (.iload_n 3, 1) := by decide +kernel
theorem dJ7_fill_53178_7 : decode cJ7_fill_53178 7 = .ok (.if_icmp .ge 13, 3) := by decide +kernel
theorem dJ7_fill_53178_10 : decode cJ7_fill_53178 10 = .ok (.aload_n 0, 1) := by decide +kernel
theorem dJ7_fill_53178_11 : decode cJ7_fill_53178 11 = .ok (.iload_n 2, 1) := by decide +kernel
theorem dJ7_fill_53178_12 : decode cJ7_fill_53178 12 = .ok (.iload_n 1, 1) := by decide +kernel
theorem dJ7_fill_53178_13 : decode cJ7_fill_53178 13 = .ok (.iastore, 1) := by decide +kernel
theorem dJ7_fill_53178_14 : decode cJ7_fill_53178 14 = .ok (.iinc 2 1, 3) := by decide +kernel
theorem dJ7_fill_53178_17 : decode cJ7_fill_53178 17 = .ok (.goto (-12), 3) := by decide +kernel
theorem dJ7_fill_53178_20 : decode cJ7_fill_53178 20 = .ok (.return_, 1) := by decide +kernel
set_option maxHeartbeats 4000000 in
set_option maxRecDepth 100000 in
theorem c_fillI (l : Launch) (hst : l.stackTraces = false) (tE : Nat) (adK adV : Nat → Nat) (dC : Nat → ClassId) (dI : Nat → Nat → Nat) (h0 : Nat) (k0 : ClassId) (f0 : Nat → Int32) (v0 : Int32) (sz : Nat) : Met l yJ7_fill_53178 (Cond.code yJ7_fill_53178 cJ7_fill_53178 4 none :: tw) ({ frames := 0, cells := 0, slots := 0, locals := 0 }) (va_Pc [.ref h0, .int v0] (pre tE adK adV (dC, dI) [(h0, .inl (k0, 7, .inl f0))] [(k0, .int)] sz)) (va_Qv (fun (_ : Unit) => True) (fun (_ : Unit) (_ : State) => True) (va_A [(h0, .inl (k0, 7, .inl f0))] sz)) 0 0 (va_A [(h0, .inl (k0, 7, .inl f0))] sz) := by
  refine Met.ofW (cc := cJ7_fill_53178) (maxL := 4) (ret := none) (by decide) rfl ?_
  intro p e s m args below meth c s₁ B hml hv
  obtain ⟨rfl, hsz, hP, hK, hD0, ham⟩ := hv
  have hx := B.exec
  have hb := B.bytes
  have hr := B.returns
  have hts := atoms_spec B.pre
  have hq : ∀ w ∈ tw, w.before _ s = true := fun w h => hts w (List.mem_cons_of_mem _ h)
  have hown : s.vm.findClass RJ7 = some m.cls := findClass_of_methodNamed B.named
  have hlocks := B.notSynchronized
  subst hsz
  have hD := hD0.self (sz := s.heap.size)
  generalize hAe : va_A [(h0, .inl (k0, 7, .inl f0))] s.heap.size = A at hD ham ⊢
  have hA : ∀ q : Nat, s.heap.size ≤ q → A q := fun q h => by rw [← hAe]; exact Or.inr h
  have hS : va_S A s.heap s.heap [] := va_S.rf
  have hP : va_P (dC, dI) cls [(h0, .inl (k0, 7, .inl f0))] s.heap := hP
  have hl := lv_entry ([.ref h0, .int v0]) (n := 4) (Nat.le_of_ble_eq_true rfl)
  rw [lg_entry_eq]
  generalize (lg_sl ([.ref h0, .int v0]) ++ List.replicate (4 - (lg_sl ([.ref h0, .int v0])).length) Slot.unset).toArray = ls at hl ⊢
  have hl : lv_has ls 4 [(0, .ref h0), (1, .int v0)] := hl
  refine lv_iconst (v := 0) hx hb dJ7_fill_53178_0 (by decide) ?_
  refine lv_istore_n (lv' := [(2, .int 0), (0, .ref h0), (1, .int v0)]) hx hb dJ7_fill_53178_1 rfl hl (by decide) rfl (fun ls hl => ?_)
  refine lv_aload_n hx hb dJ7_fill_53178_2 rfl (lv_at hl 1 rfl) ?_
  refine va_alen hx hb hK hP 0 0 rfl rfl (v := 7) (by show Int32.ofNat 7 = 7; decide) dJ7_fill_53178_3 ?_
  refine lv_istore_n (lv' := [(3, .int 7), (2, .int 0), (0, .ref h0), (1, .int v0)]) hx hb dJ7_fill_53178_4 rfl hl (by decide) rfl (fun ls hl => ?_)
  refine lv_iload_n hx hb dJ7_fill_53178_5 rfl (lv_at hl 1 rfl) ?_
  refine lv_iload_n hx hb dJ7_fill_53178_6 rfl (lv_at hl 0 rfl) ?_
  refine lv_icmp_ge (tgt := 20) hx hb dJ7_fill_53178_7 (by decide) (fun c_1 => ?_) (fun c_1 => ?_)
  · exact absurd c_1 (by decide)
  · refine lv_aload_n hx hb dJ7_fill_53178_10 rfl (lv_at hl 2 rfl) ?_
    refine lv_iload_n hx hb dJ7_fill_53178_11 rfl (lv_at hl 1 rfl) ?_
    refine lv_iload_n hx hb dJ7_fill_53178_12 rfl (lv_at hl 3 rfl) ?_
    refine va_iast hx hb hK hP hD hS 0 0 rfl rfl (by unfold vp_in; decide) dJ7_fill_53178_13 (fun H locs hP hD hS => ?_)
    obtain ⟨f_2, ef_2⟩ : ∃ z, z = (upd f0 (0 : Int32).toNatClampNeg v0) := ⟨_, rfl⟩
    have hP : va_P (dC, dI) cls [(h0, .inl (k0, 7, .inl f_2))] H := by rw [ef_2]; exact hP
    have hD : va_D A [(h0, .inl (k0, 7, .inl f_2))] := by rw [ef_2]; exact hD
    refine lv_iinc (v := 1) (lv' := [(2, .int 1), (3, .int 7), (0, .ref h0), (1, .int v0)]) hx hb dJ7_fill_53178_14 hl (k := 1) rfl (by decide) (by decide) rfl (fun ls hl => ?_)
    refine lv_goto (tgt := 5) hx hb dJ7_fill_53178_17 (by decide) ?_
    refine lv_iload_n hx hb dJ7_fill_53178_5 rfl (lv_at hl 0 rfl) ?_
    refine lv_iload_n hx hb dJ7_fill_53178_6 rfl (lv_at hl 1 rfl) ?_
    refine lv_icmp_ge (tgt := 20) hx hb dJ7_fill_53178_7 (by decide) (fun c_3 => ?_) (fun c_3 => ?_)
    · exact absurd c_3 (by decide)
    · refine lv_aload_n hx hb dJ7_fill_53178_10 rfl (lv_at hl 2 rfl) ?_
      refine lv_iload_n hx hb dJ7_fill_53178_11 rfl (lv_at hl 0 rfl) ?_
      refine lv_iload_n hx hb dJ7_fill_53178_12 rfl (lv_at hl 3 rfl) ?_
      refine va_iast hx hb hK hP hD hS 0 0 rfl rfl (by unfold vp_in; decide) dJ7_fill_53178_13 (fun H locs hP hD hS => ?_)
      obtain ⟨f_4, ef_4⟩ : ∃ z, z = (upd f_2 (1 : Int32).toNatClampNeg v0) := ⟨_, rfl⟩
      have hP : va_P (dC, dI) cls [(h0, .inl (k0, 7, .inl f_4))] H := by rw [ef_4]; exact hP
      have hD : va_D A [(h0, .inl (k0, 7, .inl f_4))] := by rw [ef_4]; exact hD
      refine lv_iinc (v := 2) (lv' := [(2, .int 2), (3, .int 7), (0, .ref h0), (1, .int v0)]) hx hb dJ7_fill_53178_14 hl (k := 0) rfl (by decide) (by decide) rfl (fun ls hl => ?_)
      refine lv_goto (tgt := 5) hx hb dJ7_fill_53178_17 (by decide) ?_
      refine lv_iload_n hx hb dJ7_fill_53178_5 rfl (lv_at hl 0 rfl) ?_
      refine lv_iload_n hx hb dJ7_fill_53178_6 rfl (lv_at hl 1 rfl) ?_
      refine lv_icmp_ge (tgt := 20) hx hb dJ7_fill_53178_7 (by decide) (fun c_5 => ?_) (fun c_5 => ?_)
      · exact absurd c_5 (by decide)
      · refine lv_aload_n hx hb dJ7_fill_53178_10 rfl (lv_at hl 2 rfl) ?_
        refine lv_iload_n hx hb dJ7_fill_53178_11 rfl (lv_at hl 0 rfl) ?_
        refine lv_iload_n hx hb dJ7_fill_53178_12 rfl (lv_at hl 3 rfl) ?_
        refine va_iast hx hb hK hP hD hS 0 0 rfl rfl (by unfold vp_in; decide) dJ7_fill_53178_13 (fun H locs hP hD hS => ?_)
        obtain ⟨f_6, ef_6⟩ : ∃ z, z = (upd f_4 (2 : Int32).toNatClampNeg v0) := ⟨_, rfl⟩
        have hP : va_P (dC, dI) cls [(h0, .inl (k0, 7, .inl f_6))] H := by rw [ef_6]; exact hP
        have hD : va_D A [(h0, .inl (k0, 7, .inl f_6))] := by rw [ef_6]; exact hD
        refine lv_iinc (v := 3) (lv' := [(2, .int 3), (3, .int 7), (0, .ref h0), (1, .int v0)]) hx hb dJ7_fill_53178_14 hl (k := 0) rfl (by decide) (by decide) rfl (fun ls hl => ?_)
        refine lv_goto (tgt := 5) hx hb dJ7_fill_53178_17 (by decide) ?_
        refine lv_iload_n hx hb dJ7_fill_53178_5 rfl (lv_at hl 0 rfl) ?_
        refine lv_iload_n hx hb dJ7_fill_53178_6 rfl (lv_at hl 1 rfl) ?_
        refine lv_icmp_ge (tgt := 20) hx hb dJ7_fill_53178_7 (by decide) (fun c_7 => ?_) (fun c_7 => ?_)
        · exact absurd c_7 (by decide)
        · refine lv_aload_n hx hb dJ7_fill_53178_10 rfl (lv_at hl 2 rfl) ?_
          refine lv_iload_n hx hb dJ7_fill_53178_11 rfl (lv_at hl 0 rfl) ?_
          refine lv_iload_n hx hb dJ7_fill_53178_12 rfl (lv_at hl 3 rfl) ?_
          refine va_iast hx hb hK hP hD hS 0 0 rfl rfl (by unfold vp_in; decide) dJ7_fill_53178_13 (fun H locs hP hD hS => ?_)
          obtain ⟨f_8, ef_8⟩ : ∃ z, z = (upd f_6 (3 : Int32).toNatClampNeg v0) := ⟨_, rfl⟩
          have hP : va_P (dC, dI) cls [(h0, .inl (k0, 7, .inl f_8))] H := by rw [ef_8]; exact hP
          have hD : va_D A [(h0, .inl (k0, 7, .inl f_8))] := by rw [ef_8]; exact hD
          refine lv_iinc (v := 4) (lv' := [(2, .int 4), (3, .int 7), (0, .ref h0), (1, .int v0)]) hx hb dJ7_fill_53178_14 hl (k := 0) rfl (by decide) (by decide) rfl (fun ls hl => ?_)
          refine lv_goto (tgt := 5) hx hb dJ7_fill_53178_17 (by decide) ?_
          refine lv_iload_n hx hb dJ7_fill_53178_5 rfl (lv_at hl 0 rfl) ?_
          refine lv_iload_n hx hb dJ7_fill_53178_6 rfl (lv_at hl 1 rfl) ?_
          refine lv_icmp_ge (tgt := 20) hx hb dJ7_fill_53178_7 (by decide) (fun c_9 => ?_) (fun c_9 => ?_)
          · exact absurd c_9 (by decide)
          · refine lv_aload_n hx hb dJ7_fill_53178_10 rfl (lv_at hl 2 rfl) ?_
            refine lv_iload_n hx hb dJ7_fill_53178_11 rfl (lv_at hl 0 rfl) ?_
            refine lv_iload_n hx hb dJ7_fill_53178_12 rfl (lv_at hl 3 rfl) ?_
            refine va_iast hx hb hK hP hD hS 0 0 rfl rfl (by unfold vp_in; decide) dJ7_fill_53178_13 (fun H locs hP hD hS => ?_)
            obtain ⟨f_10, ef_10⟩ : ∃ z, z = (upd f_8 (4 : Int32).toNatClampNeg v0) := ⟨_, rfl⟩
            have hP : va_P (dC, dI) cls [(h0, .inl (k0, 7, .inl f_10))] H := by rw [ef_10]; exact hP
            have hD : va_D A [(h0, .inl (k0, 7, .inl f_10))] := by rw [ef_10]; exact hD
            refine lv_iinc (v := 5) (lv' := [(2, .int 5), (3, .int 7), (0, .ref h0), (1, .int v0)]) hx hb dJ7_fill_53178_14 hl (k := 0) rfl (by decide) (by decide) rfl (fun ls hl => ?_)
            refine lv_goto (tgt := 5) hx hb dJ7_fill_53178_17 (by decide) ?_
            refine lv_iload_n hx hb dJ7_fill_53178_5 rfl (lv_at hl 0 rfl) ?_
            refine lv_iload_n hx hb dJ7_fill_53178_6 rfl (lv_at hl 1 rfl) ?_
            refine lv_icmp_ge (tgt := 20) hx hb dJ7_fill_53178_7 (by decide) (fun c_11 => ?_) (fun c_11 => ?_)
            · exact absurd c_11 (by decide)
            · refine lv_aload_n hx hb dJ7_fill_53178_10 rfl (lv_at hl 2 rfl) ?_
              refine lv_iload_n hx hb dJ7_fill_53178_11 rfl (lv_at hl 0 rfl) ?_
              refine lv_iload_n hx hb dJ7_fill_53178_12 rfl (lv_at hl 3 rfl) ?_
              refine va_iast hx hb hK hP hD hS 0 0 rfl rfl (by unfold vp_in; decide) dJ7_fill_53178_13 (fun H locs hP hD hS => ?_)
              obtain ⟨f_12, ef_12⟩ : ∃ z, z = (upd f_10 (5 : Int32).toNatClampNeg v0) := ⟨_, rfl⟩
              have hP : va_P (dC, dI) cls [(h0, .inl (k0, 7, .inl f_12))] H := by rw [ef_12]; exact hP
              have hD : va_D A [(h0, .inl (k0, 7, .inl f_12))] := by rw [ef_12]; exact hD
              refine lv_iinc (v := 6) (lv' := [(2, .int 6), (3, .int 7), (0, .ref h0), (1, .int v0)]) hx hb dJ7_fill_53178_14 hl (k := 0) rfl (by decide) (by decide) rfl (fun ls hl => ?_)
              refine lv_goto (tgt := 5) hx hb dJ7_fill_53178_17 (by decide) ?_
              refine lv_iload_n hx hb dJ7_fill_53178_5 rfl (lv_at hl 0 rfl) ?_
              refine lv_iload_n hx hb dJ7_fill_53178_6 rfl (lv_at hl 1 rfl) ?_
              refine lv_icmp_ge (tgt := 20) hx hb dJ7_fill_53178_7 (by decide) (fun c_13 => ?_) (fun c_13 => ?_)
              · exact absurd c_13 (by decide)
              · refine lv_aload_n hx hb dJ7_fill_53178_10 rfl (lv_at hl 2 rfl) ?_
                refine lv_iload_n hx hb dJ7_fill_53178_11 rfl (lv_at hl 0 rfl) ?_
                refine lv_iload_n hx hb dJ7_fill_53178_12 rfl (lv_at hl 3 rfl) ?_
                refine va_iast hx hb hK hP hD hS 0 0 rfl rfl (by unfold vp_in; decide) dJ7_fill_53178_13 (fun H locs hP hD hS => ?_)
                obtain ⟨f_14, ef_14⟩ : ∃ z, z = (upd f_12 (6 : Int32).toNatClampNeg v0) := ⟨_, rfl⟩
                have hP : va_P (dC, dI) cls [(h0, .inl (k0, 7, .inl f_14))] H := by rw [ef_14]; exact hP
                have hD : va_D A [(h0, .inl (k0, 7, .inl f_14))] := by rw [ef_14]; exact hD
                refine lv_iinc (v := 7) (lv' := [(2, .int 7), (3, .int 7), (0, .ref h0), (1, .int v0)]) hx hb dJ7_fill_53178_14 hl (k := 0) rfl (by decide) (by decide) rfl (fun ls hl => ?_)
                refine lv_goto (tgt := 5) hx hb dJ7_fill_53178_17 (by decide) ?_
                refine lv_iload_n hx hb dJ7_fill_53178_5 rfl (lv_at hl 0 rfl) ?_
                refine lv_iload_n hx hb dJ7_fill_53178_6 rfl (lv_at hl 1 rfl) ?_
                refine lv_icmp_ge (tgt := 20) hx hb dJ7_fill_53178_7 (by decide) (fun c_15 => ?_) (fun c_15 => ?_)
                · refine W.widen (k := 0) (n := 0) (Nat.le_of_ble_eq_true rfl) (Nat.le_of_ble_eq_true rfl) ?_
                  exact W.vret hx hb hr (fun t ht hW => ⟨⟨(), rfl, trivial, trivial⟩, hS.F ht⟩) hS.2.2 dJ7_fill_53178_20
                · exact absurd c_15 (by decide)
abbrev cJ7_fill_18040 : ByteArray := prog_42_method_107_code
def yJ7_fill_18040 : MethodName := ⟨RJ7, "fill", "([CC)V"⟩
theorem dJ7_fill_18040_0 : decode cJ7_fill_18040 0 = .ok (.iconst 0, 1) := by decide +kernel
theorem dJ7_fill_18040_1 : decode cJ7_fill_18040 1 = .ok (.istore_n 2, 1) := by decide +kernel
theorem dJ7_fill_18040_2 : decode cJ7_fill_18040 2 = .ok (.aload_n 0, 1) := by decide +kernel
theorem dJ7_fill_18040_3 : decode cJ7_fill_18040 3 = .ok (.arraylength, 1) := by decide +kernel
theorem dJ7_fill_18040_4 : decode cJ7_fill_18040 4 = .ok (.istore_n 3, 1) := by decide +kernel
theorem dJ7_fill_18040_5 : decode cJ7_fill_18040 5 = .ok (.iload_n 2, 1) := by decide +kernel
theorem dJ7_fill_18040_6 : decode cJ7_fill_18040 6 = .ok (.iload_n 3, 1) := by decide +kernel
theorem dJ7_fill_18040_7 : decode cJ7_fill_18040 7 = .ok (.if_icmp .ge 13, 3) := by decide +kernel
theorem dJ7_fill_18040_10 : decode cJ7_fill_18040 10 = .ok (.aload_n 0, 1) := by decide +kernel
theorem dJ7_fill_18040_11 : decode cJ7_fill_18040 11 = .ok (.iload_n 2, 1) := by decide +kernel
theorem dJ7_fill_18040_12 : decode cJ7_fill_18040 12 = .ok (.iload_n 1, 1) := by decide +kernel
theorem dJ7_fill_18040_13 : decode cJ7_fill_18040 13 = .ok (.castore, 1) := by decide +kernel
theorem dJ7_fill_18040_14 : decode cJ7_fill_18040 14 = .ok (.iinc 2 1, 3) := by decide +kernel
theorem dJ7_fill_18040_17 : decode cJ7_fill_18040 17 = .ok (.goto (-12), 3) := by decide +kernel
theorem dJ7_fill_18040_20 : decode cJ7_fill_18040 20 = .ok (.return_, 1) := by decide +kernel
set_option maxHeartbeats 4000000 in
set_option maxRecDepth 100000 in
theorem c_fillC (l : Launch) (hst : l.stackTraces = false) (tE : Nat) (adK adV : Nat → Nat) (dC : Nat → ClassId) (dI : Nat → Nat → Nat) (h0 : Nat) (k0 : ClassId) (f0 : Nat → Int32) (v0 : Int32) (sz : Nat) : Met l yJ7_fill_18040 (Cond.code yJ7_fill_18040 cJ7_fill_18040 4 none :: tw) ({ frames := 0, cells := 0, slots := 0, locals := 0 }) (va_Pc [.ref h0, .int v0] (pre tE adK adV (dC, dI) [(h0, .inl (k0, 7, .inl f0))] [(k0, .char)] sz)) (va_Qv (fun (_ : Unit) => True) (fun (_ : Unit) (_ : State) => True) (va_A [(h0, .inl (k0, 7, .inl f0))] sz)) 0 0 (va_A [(h0, .inl (k0, 7, .inl f0))] sz) := by
  refine Met.ofW (cc := cJ7_fill_18040) (maxL := 4) (ret := none) (by decide) rfl ?_
  intro p e s m args below meth c s₁ B hml hv
  obtain ⟨rfl, hsz, hP, hK, hD0, ham⟩ := hv
  have hx := B.exec
  have hb := B.bytes
  have hr := B.returns
  have hts := atoms_spec B.pre
  have hq : ∀ w ∈ tw, w.before _ s = true := fun w h => hts w (List.mem_cons_of_mem _ h)
  have hown : s.vm.findClass RJ7 = some m.cls := findClass_of_methodNamed B.named
  have hlocks := B.notSynchronized
  subst hsz
  have hD := hD0.self (sz := s.heap.size)
  generalize hAe : va_A [(h0, .inl (k0, 7, .inl f0))] s.heap.size = A at hD ham ⊢
  have hA : ∀ q : Nat, s.heap.size ≤ q → A q := fun q h => by rw [← hAe]; exact Or.inr h
  have hS : va_S A s.heap s.heap [] := va_S.rf
  have hP : va_P (dC, dI) cls [(h0, .inl (k0, 7, .inl f0))] s.heap := hP
  have hl := lv_entry ([.ref h0, .int v0]) (n := 4) (Nat.le_of_ble_eq_true rfl)
  rw [lg_entry_eq]
  generalize (lg_sl ([.ref h0, .int v0]) ++ List.replicate (4 - (lg_sl ([.ref h0, .int v0])).length) Slot.unset).toArray = ls at hl ⊢
  have hl : lv_has ls 4 [(0, .ref h0), (1, .int v0)] := hl
  refine lv_iconst (v := 0) hx hb dJ7_fill_18040_0 (by decide) ?_
  refine lv_istore_n (lv' := [(2, .int 0), (0, .ref h0), (1, .int v0)]) hx hb dJ7_fill_18040_1 rfl hl (by decide) rfl (fun ls hl => ?_)
  refine lv_aload_n hx hb dJ7_fill_18040_2 rfl (lv_at hl 1 rfl) ?_
  refine va_alen hx hb hK hP 0 0 rfl rfl (v := 7) (by show Int32.ofNat 7 = 7; decide) dJ7_fill_18040_3 ?_
  refine lv_istore_n (lv' := [(3, .int 7), (2, .int 0), (0, .ref h0), (1, .int v0)]) hx hb dJ7_fill_18040_4 rfl hl (by decide) rfl (fun ls hl => ?_)
  refine lv_iload_n hx hb dJ7_fill_18040_5 rfl (lv_at hl 1 rfl) ?_
  refine lv_iload_n hx hb dJ7_fill_18040_6 rfl (lv_at hl 0 rfl) ?_
  refine lv_icmp_ge (tgt := 20) hx hb dJ7_fill_18040_7 (by decide) (fun c_1 => ?_) (fun c_1 => ?_)
  · exact absurd c_1 (by decide)
  · refine lv_aload_n hx hb dJ7_fill_18040_10 rfl (lv_at hl 2 rfl) ?_
    refine lv_iload_n hx hb dJ7_fill_18040_11 rfl (lv_at hl 1 rfl) ?_
    refine lv_iload_n hx hb dJ7_fill_18040_12 rfl (lv_at hl 3 rfl) ?_
    refine va_cast hx hb hK hP hD hS 0 0 rfl rfl (by unfold vp_in; decide) dJ7_fill_18040_13 (fun H locs hP hD hS => ?_)
    obtain ⟨f_2, ef_2⟩ : ∃ z, z = (upd f0 (0 : Int32).toNatClampNeg (vp_nar .char v0)) := ⟨_, rfl⟩
    have hP : va_P (dC, dI) cls [(h0, .inl (k0, 7, .inl f_2))] H := by rw [ef_2]; exact hP
    have hD : va_D A [(h0, .inl (k0, 7, .inl f_2))] := by rw [ef_2]; exact hD
    refine lv_iinc (v := 1) (lv' := [(2, .int 1), (3, .int 7), (0, .ref h0), (1, .int v0)]) hx hb dJ7_fill_18040_14 hl (k := 1) rfl (by decide) (by decide) rfl (fun ls hl => ?_)
    refine lv_goto (tgt := 5) hx hb dJ7_fill_18040_17 (by decide) ?_
    refine lv_iload_n hx hb dJ7_fill_18040_5 rfl (lv_at hl 0 rfl) ?_
    refine lv_iload_n hx hb dJ7_fill_18040_6 rfl (lv_at hl 1 rfl) ?_
    refine lv_icmp_ge (tgt := 20) hx hb dJ7_fill_18040_7 (by decide) (fun c_3 => ?_) (fun c_3 => ?_)
    · exact absurd c_3 (by decide)
    · refine lv_aload_n hx hb dJ7_fill_18040_10 rfl (lv_at hl 2 rfl) ?_
      refine lv_iload_n hx hb dJ7_fill_18040_11 rfl (lv_at hl 0 rfl) ?_
      refine lv_iload_n hx hb dJ7_fill_18040_12 rfl (lv_at hl 3 rfl) ?_
      refine va_cast hx hb hK hP hD hS 0 0 rfl rfl (by unfold vp_in; decide) dJ7_fill_18040_13 (fun H locs hP hD hS => ?_)
      obtain ⟨f_4, ef_4⟩ : ∃ z, z = (upd f_2 (1 : Int32).toNatClampNeg (vp_nar .char v0)) := ⟨_, rfl⟩
      have hP : va_P (dC, dI) cls [(h0, .inl (k0, 7, .inl f_4))] H := by rw [ef_4]; exact hP
      have hD : va_D A [(h0, .inl (k0, 7, .inl f_4))] := by rw [ef_4]; exact hD
      refine lv_iinc (v := 2) (lv' := [(2, .int 2), (3, .int 7), (0, .ref h0), (1, .int v0)]) hx hb dJ7_fill_18040_14 hl (k := 0) rfl (by decide) (by decide) rfl (fun ls hl => ?_)
      refine lv_goto (tgt := 5) hx hb dJ7_fill_18040_17 (by decide) ?_
      refine lv_iload_n hx hb dJ7_fill_18040_5 rfl (lv_at hl 0 rfl) ?_
      refine lv_iload_n hx hb dJ7_fill_18040_6 rfl (lv_at hl 1 rfl) ?_
      refine lv_icmp_ge (tgt := 20) hx hb dJ7_fill_18040_7 (by decide) (fun c_5 => ?_) (fun c_5 => ?_)
      · exact absurd c_5 (by decide)
      · refine lv_aload_n hx hb dJ7_fill_18040_10 rfl (lv_at hl 2 rfl) ?_
        refine lv_iload_n hx hb dJ7_fill_18040_11 rfl (lv_at hl 0 rfl) ?_
        refine lv_iload_n hx hb dJ7_fill_18040_12 rfl (lv_at hl 3 rfl) ?_
        refine va_cast hx hb hK hP hD hS 0 0 rfl rfl (by unfold vp_in; decide) dJ7_fill_18040_13 (fun H locs hP hD hS => ?_)
        obtain ⟨f_6, ef_6⟩ : ∃ z, z = (upd f_4 (2 : Int32).toNatClampNeg (vp_nar .char v0)) := ⟨_, rfl⟩
        have hP : va_P (dC, dI) cls [(h0, .inl (k0, 7, .inl f_6))] H := by rw [ef_6]; exact hP
        have hD : va_D A [(h0, .inl (k0, 7, .inl f_6))] := by rw [ef_6]; exact hD
        refine lv_iinc (v := 3) (lv' := [(2, .int 3), (3, .int 7), (0, .ref h0), (1, .int v0)]) hx hb dJ7_fill_18040_14 hl (k := 0) rfl (by decide) (by decide) rfl (fun ls hl => ?_)
        refine lv_goto (tgt := 5) hx hb dJ7_fill_18040_17 (by decide) ?_
        refine lv_iload_n hx hb dJ7_fill_18040_5 rfl (lv_at hl 0 rfl) ?_
        refine lv_iload_n hx hb dJ7_fill_18040_6 rfl (lv_at hl 1 rfl) ?_
        refine lv_icmp_ge (tgt := 20) hx hb dJ7_fill_18040_7 (by decide) (fun c_7 => ?_) (fun c_7 => ?_)
        · exact absurd c_7 (by decide)
        · refine lv_aload_n hx hb dJ7_fill_18040_10 rfl (lv_at hl 2 rfl) ?_
          refine lv_iload_n hx hb dJ7_fill_18040_11 rfl (lv_at hl 0 rfl) ?_
          refine lv_iload_n hx hb dJ7_fill_18040_12 rfl (lv_at hl 3 rfl) ?_
          refine va_cast hx hb hK hP hD hS 0 0 rfl rfl (by unfold vp_in; decide) dJ7_fill_18040_13 (fun H locs hP hD hS => ?_)
          obtain ⟨f_8, ef_8⟩ : ∃ z, z = (upd f_6 (3 : Int32).toNatClampNeg (vp_nar .char v0)) := ⟨_, rfl⟩
          have hP : va_P (dC, dI) cls [(h0, .inl (k0, 7, .inl f_8))] H := by rw [ef_8]; exact hP
          have hD : va_D A [(h0, .inl (k0, 7, .inl f_8))] := by rw [ef_8]; exact hD
          refine lv_iinc (v := 4) (lv' := [(2, .int 4), (3, .int 7), (0, .ref h0), (1, .int v0)]) hx hb dJ7_fill_18040_14 hl (k := 0) rfl (by decide) (by decide) rfl (fun ls hl => ?_)
          refine lv_goto (tgt := 5) hx hb dJ7_fill_18040_17 (by decide) ?_
          refine lv_iload_n hx hb dJ7_fill_18040_5 rfl (lv_at hl 0 rfl) ?_
          refine lv_iload_n hx hb dJ7_fill_18040_6 rfl (lv_at hl 1 rfl) ?_
          refine lv_icmp_ge (tgt := 20) hx hb dJ7_fill_18040_7 (by decide) (fun c_9 => ?_) (fun c_9 => ?_)
          · exact absurd c_9 (by decide)
          · refine lv_aload_n hx hb dJ7_fill_18040_10 rfl (lv_at hl 2 rfl) ?_
            refine lv_iload_n hx hb dJ7_fill_18040_11 rfl (lv_at hl 0 rfl) ?_
            refine lv_iload_n hx hb dJ7_fill_18040_12 rfl (lv_at hl 3 rfl) ?_
            refine va_cast hx hb hK hP hD hS 0 0 rfl rfl (by unfold vp_in; decide) dJ7_fill_18040_13 (fun H locs hP hD hS => ?_)
            obtain ⟨f_10, ef_10⟩ : ∃ z, z = (upd f_8 (4 : Int32).toNatClampNeg (vp_nar .char v0)) := ⟨_, rfl⟩
            have hP : va_P (dC, dI) cls [(h0, .inl (k0, 7, .inl f_10))] H := by rw [ef_10]; exact hP
            have hD : va_D A [(h0, .inl (k0, 7, .inl f_10))] := by rw [ef_10]; exact hD
            refine lv_iinc (v := 5) (lv' := [(2, .int 5), (3, .int 7), (0, .ref h0), (1, .int v0)]) hx hb dJ7_fill_18040_14 hl (k := 0) rfl (by decide) (by decide) rfl (fun ls hl => ?_)
            refine lv_goto (tgt := 5) hx hb dJ7_fill_18040_17 (by decide) ?_
            refine lv_iload_n hx hb dJ7_fill_18040_5 rfl (lv_at hl 0 rfl) ?_
            refine lv_iload_n hx hb dJ7_fill_18040_6 rfl (lv_at hl 1 rfl) ?_
            refine lv_icmp_ge (tgt := 20) hx hb dJ7_fill_18040_7 (by decide) (fun c_11 => ?_) (fun c_11 => ?_)
            · exact absurd c_11 (by decide)
            · refine lv_aload_n hx hb dJ7_fill_18040_10 rfl (lv_at hl 2 rfl) ?_
              refine lv_iload_n hx hb dJ7_fill_18040_11 rfl (lv_at hl 0 rfl) ?_
              refine lv_iload_n hx hb dJ7_fill_18040_12 rfl (lv_at hl 3 rfl) ?_
              refine va_cast hx hb hK hP hD hS 0 0 rfl rfl (by unfold vp_in; decide) dJ7_fill_18040_13 (fun H locs hP hD hS => ?_)
              obtain ⟨f_12, ef_12⟩ : ∃ z, z = (upd f_10 (5 : Int32).toNatClampNeg (vp_nar .char v0)) := ⟨_, rfl⟩
              have hP : va_P (dC, dI) cls [(h0, .inl (k0, 7, .inl f_12))] H := by rw [ef_12]; exact hP
              have hD : va_D A [(h0, .inl (k0, 7, .inl f_12))] := by rw [ef_12]; exact hD
              refine lv_iinc (v := 6) (lv' := [(2, .int 6), (3, .int 7), (0, .ref h0), (1, .int v0)]) hx hb dJ7_fill_18040_14 hl (k := 0) rfl (by decide) (by decide) rfl (fun ls hl => ?_)
              refine lv_goto (tgt := 5) hx hb dJ7_fill_18040_17 (by decide) ?_
              refine lv_iload_n hx hb dJ7_fill_18040_5 rfl (lv_at hl 0 rfl) ?_
              refine lv_iload_n hx hb dJ7_fill_18040_6 rfl (lv_at hl 1 rfl) ?_
              refine lv_icmp_ge (tgt := 20) hx hb dJ7_fill_18040_7 (by decide) (fun c_13 => ?_) (fun c_13 => ?_)
              · exact absurd c_13 (by decide)
              · refine lv_aload_n hx hb dJ7_fill_18040_10 rfl (lv_at hl 2 rfl) ?_
                refine lv_iload_n hx hb dJ7_fill_18040_11 rfl (lv_at hl 0 rfl) ?_
                refine lv_iload_n hx hb dJ7_fill_18040_12 rfl (lv_at hl 3 rfl) ?_
                refine va_cast hx hb hK hP hD hS 0 0 rfl rfl (by unfold vp_in; decide) dJ7_fill_18040_13 (fun H locs hP hD hS => ?_)
                obtain ⟨f_14, ef_14⟩ : ∃ z, z = (upd f_12 (6 : Int32).toNatClampNeg (vp_nar .char v0)) := ⟨_, rfl⟩
                have hP : va_P (dC, dI) cls [(h0, .inl (k0, 7, .inl f_14))] H := by rw [ef_14]; exact hP
                have hD : va_D A [(h0, .inl (k0, 7, .inl f_14))] := by rw [ef_14]; exact hD
                refine lv_iinc (v := 7) (lv' := [(2, .int 7), (3, .int 7), (0, .ref h0), (1, .int v0)]) hx hb dJ7_fill_18040_14 hl (k := 0) rfl (by decide) (by decide) rfl (fun ls hl => ?_)
                refine lv_goto (tgt := 5) hx hb dJ7_fill_18040_17 (by decide) ?_
                refine lv_iload_n hx hb dJ7_fill_18040_5 rfl (lv_at hl 0 rfl) ?_
                refine lv_iload_n hx hb dJ7_fill_18040_6 rfl (lv_at hl 1 rfl) ?_
                refine lv_icmp_ge (tgt := 20) hx hb dJ7_fill_18040_7 (by decide) (fun c_15 => ?_) (fun c_15 => ?_)
                · refine W.widen (k := 0) (n := 0) (Nat.le_of_ble_eq_true rfl) (Nat.le_of_ble_eq_true rfl) ?_
                  exact W.vret hx hb hr (fun t ht hW => ⟨⟨(), rfl, trivial, trivial⟩, hS.F ht⟩) hS.2.2 dJ7_fill_18040_20
                · exact absurd c_15 (by decide)
abbrev cX12_init : ByteArray := prog_13_method_4_code
def yX12_init : MethodName := ⟨RX12, "<init>", "()V"⟩
theorem dX12_init_0 : decode cX12_init 0 = .ok (.aload_n 0, 1) := by decide +kernel
theorem dX12_init_1 : decode cX12_init 1 = .ok (.invokespecial 13, 3) := by decide +kernel
theorem q_1270 : (Cond.methodLink "NightfallVillageModel" 13 objectInit) ∈ tw := tw_in (i := 1270) (by decide +kernel) (by decide +kernel)
theorem dX12_init_4 : decode cX12_init 4 = .ok (.aload_n 0, 1) := by decide +kernel
theorem dX12_init_5 : decode cX12_init 5 = .ok (.new 19, 3) := by decide +kernel
theorem q_1271 : (Cond.classLink "NightfallVillageModel" 19 "java/util/ArrayList") ∈ tw := tw_in (i := 1271) (by decide +kernel) (by decide +kernel)
theorem q_1272 : (Cond.instantiable "java/util/ArrayList" 3) ∈ tw := tw_in (i := 1272) (by decide +kernel) (by decide +kernel)
theorem q_15 : (Cond.initialized "java/util/ArrayList") ∈ tw := tw_in (i := 15) (by decide +kernel) (by decide +kernel)
theorem dX12_init_8 : decode cX12_init 8 = .ok (.dup, 1) := by decide +kernel
theorem dX12_init_9 : decode cX12_init 9 = .ok (.invokespecial 21, 3) := by decide +kernel
theorem q_1275 : (Cond.code yJx4a65c_init_da8c8 cJx4a65c_init_da8c8 1 none) ∈ tw := tw_in (i := 1275) (by decide +kernel) (by decide +kernel)
theorem q_1273 : (Cond.methodLink "NightfallVillageModel" 21 yJx4a65c_init_da8c8) ∈ tw := tw_in (i := 1273) (by decide +kernel) (by decide +kernel)
theorem q_1274 : (Cond.instanceMethod yJx4a65c_init_da8c8) ∈ tw := tw_in (i := 1274) (by decide +kernel) (by decide +kernel)
theorem dX12_init_12 : decode cX12_init 12 = .ok (.putfield 22, 3) := by decide +kernel
theorem q_1305 : (Cond.fieldLink "NightfallVillageModel" 22 "NightfallVillageModel" "roles" "Ljava/util/List;") ∈ tw := tw_in (i := 1305) (by decide +kernel) (by decide +kernel)
theorem dX12_init_15 : decode cX12_init 15 = .ok (.aload_n 0, 1) := by decide +kernel
theorem dX12_init_16 : decode cX12_init 16 = .ok (.new 19, 3) := by decide +kernel
theorem dX12_init_19 : decode cX12_init 19 = .ok (.dup, 1) := by decide +kernel
theorem dX12_init_20 : decode cX12_init 20 = .ok (.invokespecial 21, 3) := by decide +kernel
theorem dX12_init_23 : decode cX12_init 23 = .ok (.putfield 26, 3) := by decide +kernel
theorem q_1306 : (Cond.fieldLink "NightfallVillageModel" 26 "NightfallVillageModel" "dealt" "Ljava/util/List;") ∈ tw := tw_in (i := 1306) (by decide +kernel) (by decide +kernel)
theorem dX12_init_26 : decode cX12_init 26 = .ok (.aload_n 0, 1) := by decide +kernel
theorem dX12_init_27 : decode cX12_init 27 = .ok (.bipush 7, 2) := by decide +kernel
theorem dX12_init_29 : decode cX12_init 29 = .ok (.newarray .int, 2) := by decide +kernel
theorem dX12_init_31 : decode cX12_init 31 = .ok (.putfield 29, 3) := by decide +kernel
theorem q_1307 : (Cond.fieldLink "NightfallVillageModel" 29 "NightfallVillageModel" "heirOf" "[I") ∈ tw := tw_in (i := 1307) (by decide +kernel) (by decide +kernel)
theorem dX12_init_34 : decode cX12_init 34 = .ok (.aload_n 0, 1) := by decide +kernel
theorem dX12_init_35 : decode cX12_init 35 = .ok (.iconst (-1), 1) := by decide +kernel
theorem dX12_init_36 : decode cX12_init 36 = .ok (.putfield 33, 3) := by decide +kernel
theorem q_1308 : (Cond.fieldLink "NightfallVillageModel" 33 "NightfallVillageModel" "lover" "I") ∈ tw := tw_in (i := 1308) (by decide +kernel) (by decide +kernel)
theorem dX12_init_39 : decode cX12_init 39 = .ok (.aload_n 0, 1) := by decide +kernel
theorem dX12_init_40 : decode cX12_init 40 = .ok (.iconst (-1), 1) := by decide +kernel
theorem dX12_init_41 : decode cX12_init 41 = .ok (.putfield 36, 3) := by decide +kernel
theorem q_1309 : (Cond.fieldLink "NightfallVillageModel" 36 "NightfallVillageModel" "beloved" "I") ∈ tw := tw_in (i := 1309) (by decide +kernel) (by decide +kernel)
theorem dX12_init_44 : decode cX12_init 44 = .ok (.aload_n 0, 1) := by decide +kernel
theorem dX12_init_45 : decode cX12_init 45 = .ok (.bipush 7, 2) := by decide +kernel
theorem dX12_init_47 : decode cX12_init 47 = .ok (.newarray .int, 2) := by decide +kernel
theorem dX12_init_49 : decode cX12_init 49 = .ok (.putfield 39, 3) := by decide +kernel
theorem q_1311 : (Cond.fieldLink "NightfallVillageModel" 39 "NightfallVillageModel" "own" "[I") ∈ tw := tw_in (i := 1311) (by decide +kernel) (by decide +kernel)
theorem dX12_init_52 : decode cX12_init 52 = .ok (.aload_n 0, 1) := by decide +kernel
theorem dX12_init_53 : decode cX12_init 53 = .ok (.bipush 7, 2) := by decide +kernel
theorem dX12_init_55 : decode cX12_init 55 = .ok (.newarray .int, 2) := by decide +kernel
theorem dX12_init_57 : decode cX12_init 57 = .ok (.putfield 42, 3) := by decide +kernel
theorem q_1312 : (Cond.fieldLink "NightfallVillageModel" 42 "NightfallVillageModel" "marked" "[I") ∈ tw := tw_in (i := 1312) (by decide +kernel) (by decide +kernel)
theorem dX12_init_60 : decode cX12_init 60 = .ok (.aload_n 0, 1) := by decide +kernel
theorem dX12_init_61 : decode cX12_init 61 = .ok (.bipush 7, 2) := by decide +kernel
theorem dX12_init_63 : decode cX12_init 63 = .ok (.newarray .int, 2) := by decide +kernel
theorem dX12_init_65 : decode cX12_init 65 = .ok (.putfield 45, 3) := by decide +kernel
theorem q_1313 : (Cond.fieldLink "NightfallVillageModel" 45 "NightfallVillageModel" "target" "[I") ∈ tw := tw_in (i := 1313) (by decide +kernel) (by decide +kernel)
theorem dX12_init_68 : decode cX12_init 68 = .ok (.aload_n 0, 1) := by decide +kernel
theorem dX12_init_69 : decode cX12_init 69 = .ok (.bipush 7, 2) := by decide +kernel
theorem dX12_init_71 : decode cX12_init 71 = .ok (.newarray .int, 2) := by decide +kernel
theorem dX12_init_73 : decode cX12_init 73 = .ok (.putfield 48, 3) := by decide +kernel
theorem q_1314 : (Cond.fieldLink "NightfallVillageModel" 48 "NightfallVillageModel" "votes" "[I") ∈ tw := tw_in (i := 1314) (by decide +kernel) (by decide +kernel)
theorem dX12_init_76 : decode cX12_init 76 = .ok (.aload_n 0, 1) := by decide +kernel
theorem dX12_init_77 : decode cX12_init 77 = .ok (.bipush 7, 2) := by decide +kernel
theorem dX12_init_79 : decode cX12_init 79 = .ok (.newarray .int, 2) := by decide +kernel
theorem dX12_init_81 : decode cX12_init 81 = .ok (.putfield 51, 3) := by decide +kernel
theorem q_1315 : (Cond.fieldLink "NightfallVillageModel" 51 "NightfallVillageModel" "ghostDay" "[I") ∈ tw := tw_in (i := 1315) (by decide +kernel) (by decide +kernel)
theorem dX12_init_84 : decode cX12_init 84 = .ok (.aload_n 0, 1) := by decide +kernel
theorem dX12_init_85 : decode cX12_init 85 = .ok (.bipush 7, 2) := by decide +kernel
theorem dX12_init_87 : decode cX12_init 87 = .ok (.newarray .int, 2) := by decide +kernel
theorem dX12_init_89 : decode cX12_init 89 = .ok (.putfield 54, 3) := by decide +kernel
theorem q_1316 : (Cond.fieldLink "NightfallVillageModel" 54 "NightfallVillageModel" "knownRole" "[I") ∈ tw := tw_in (i := 1316) (by decide +kernel) (by decide +kernel)
theorem dX12_init_92 : decode cX12_init 92 = .ok (.aload_n 0, 1) := by decide +kernel
theorem dX12_init_93 : decode cX12_init 93 = .ok (.bipush 7, 2) := by decide +kernel
theorem dX12_init_95 : decode cX12_init 95 = .ok (.newarray .char, 2) := by decide +kernel
theorem dX12_init_97 : decode cX12_init 97 = .ok (.putfield 57, 3) := by decide +kernel
theorem q_1317 : (Cond.fieldLink "NightfallVillageModel" 57 "NightfallVillageModel" "death" "[C") ∈ tw := tw_in (i := 1317) (by decide +kernel) (by decide +kernel)
theorem dX12_init_100 : decode cX12_init 100 = .ok (.aload_n 0, 1) := by decide +kernel
theorem dX12_init_101 : decode cX12_init 101 = .ok (.bipush 7, 2) := by decide +kernel
theorem dX12_init_103 : decode cX12_init 103 = .ok (.newarray .boolean, 2) := by decide +kernel
theorem dX12_init_105 : decode cX12_init 105 = .ok (.putfield 61, 3) := by decide +kernel
theorem q_1318 : (Cond.fieldLink "NightfallVillageModel" 61 "NightfallVillageModel" "isUsed" "[Z") ∈ tw := tw_in (i := 1318) (by decide +kernel) (by decide +kernel)
theorem dX12_init_108 : decode cX12_init 108 = .ok (.aload_n 0, 1) := by decide +kernel
theorem dX12_init_109 : decode cX12_init 109 = .ok (.bipush 7, 2) := by decide +kernel
theorem dX12_init_111 : decode cX12_init 111 = .ok (.newarray .boolean, 2) := by decide +kernel
theorem dX12_init_113 : decode cX12_init 113 = .ok (.putfield 65, 3) := by decide +kernel
theorem q_1319 : (Cond.fieldLink "NightfallVillageModel" 65 "NightfallVillageModel" "isSilenced" "[Z") ∈ tw := tw_in (i := 1319) (by decide +kernel) (by decide +kernel)
theorem dX12_init_116 : decode cX12_init 116 = .ok (.aload_n 0, 1) := by decide +kernel
theorem dX12_init_117 : decode cX12_init 117 = .ok (.bipush 45, 2) := by decide +kernel
theorem dX12_init_119 : decode cX12_init 119 = .ok (.putfield 68, 3) := by decide +kernel
theorem q_1324 : (Cond.fieldLink "NightfallVillageModel" 68 "NightfallVillageModel" "winner" "C") ∈ tw := tw_in (i := 1324) (by decide +kernel) (by decide +kernel)
theorem dX12_init_122 : decode cX12_init 122 = .ok (.aload_n 0, 1) := by decide +kernel
theorem dX12_init_123 : decode cX12_init 123 = .ok (.new 19, 3) := by decide +kernel
theorem dX12_init_126 : decode cX12_init 126 = .ok (.dup, 1) := by decide +kernel
theorem dX12_init_127 : decode cX12_init 127 = .ok (.invokespecial 21, 3) := by decide +kernel
theorem dX12_init_130 : decode cX12_init 130 = .ok (.putfield 72, 3) := by decide +kernel
theorem q_1325 : (Cond.fieldLink "NightfallVillageModel" 72 "NightfallVillageModel" "toldAt" "Ljava/util/List;") ∈ tw := tw_in (i := 1325) (by decide +kernel) (by decide +kernel)
theorem dX12_init_133 : decode cX12_init 133 = .ok (.aload_n 0, 1) := by decide +kernel
theorem dX12_init_134 : decode cX12_init 134 = .ok (.new 19, 3) := by decide +kernel
theorem dX12_init_137 : decode cX12_init 137 = .ok (.dup, 1) := by decide +kernel
theorem dX12_init_138 : decode cX12_init 138 = .ok (.invokespecial 21, 3) := by decide +kernel
theorem dX12_init_141 : decode cX12_init 141 = .ok (.putfield 75, 3) := by decide +kernel
theorem q_1326 : (Cond.fieldLink "NightfallVillageModel" 75 "NightfallVillageModel" "seenAt" "Ljava/util/List;") ∈ tw := tw_in (i := 1326) (by decide +kernel) (by decide +kernel)
theorem dX12_init_144 : decode cX12_init 144 = .ok (.aload_n 0, 1) := by decide +kernel
theorem dX12_init_145 : decode cX12_init 145 = .ok (.new 19, 3) := by decide +kernel
theorem dX12_init_148 : decode cX12_init 148 = .ok (.dup, 1) := by decide +kernel
theorem dX12_init_149 : decode cX12_init 149 = .ok (.invokespecial 21, 3) := by decide +kernel
theorem dX12_init_152 : decode cX12_init 152 = .ok (.putfield 78, 3) := by decide +kernel
theorem q_1327 : (Cond.fieldLink "NightfallVillageModel" 78 "NightfallVillageModel" "livedAt" "Ljava/util/List;") ∈ tw := tw_in (i := 1327) (by decide +kernel) (by decide +kernel)
theorem dX12_init_155 : decode cX12_init 155 = .ok (.aload_n 0, 1) := by decide +kernel
theorem dX12_init_156 : decode cX12_init 156 = .ok (.new 19, 3) := by decide +kernel
theorem dX12_init_159 : decode cX12_init 159 = .ok (.dup, 1) := by decide +kernel
theorem dX12_init_160 : decode cX12_init 160 = .ok (.invokespecial 21, 3) := by decide +kernel
theorem dX12_init_163 : decode cX12_init 163 = .ok (.putfield 81, 3) := by decide +kernel
theorem q_1328 : (Cond.fieldLink "NightfallVillageModel" 81 "NightfallVillageModel" "history" "Ljava/util/List;") ∈ tw := tw_in (i := 1328) (by decide +kernel) (by decide +kernel)
theorem dX12_init_166 : decode cX12_init 166 = .ok (.aload_n 0, 1) := by decide +kernel
theorem dX12_init_167 : decode cX12_init 167 = .ok (.new 19, 3) := by decide +kernel
theorem dX12_init_170 : decode cX12_init 170 = .ok (.dup, 1) := by decide +kernel
theorem dX12_init_171 : decode cX12_init 171 = .ok (.invokespecial 21, 3) := by decide +kernel
theorem dX12_init_174 : decode cX12_init 174 = .ok (.putfield 84, 3) := by decide +kernel
theorem q_1329 : (Cond.fieldLink "NightfallVillageModel" 84 "NightfallVillageModel" "claims" "Ljava/util/List;") ∈ tw := tw_in (i := 1329) (by decide +kernel) (by decide +kernel)
theorem dX12_init_177 : decode cX12_init 177 = .ok (.aload_n 0, 1) := by decide +kernel
theorem dX12_init_178 : decode cX12_init 178 = .ok (.getfield 29, 3) := by decide +kernel
theorem dX12_init_181 : decode cX12_init 181 = .ok (.iconst (-1), 1) := by decide +kernel
theorem dX12_init_182 : decode cX12_init 182 = .ok (.invokestatic 87, 3) := by decide +kernel
theorem q_404 : (Cond.code yJ7_fill_53178 cJ7_fill_53178 4 none) ∈ tw := tw_in (i := 404) (by decide +kernel) (by decide +kernel)
theorem q_16 : (Cond.initialized "java/util/Arrays") ∈ tw := tw_in (i := 16) (by decide +kernel) (by decide +kernel)
theorem q_1300 : (Cond.methodLink "NightfallVillageModel" 87 yJ7_fill_53178) ∈ tw := tw_in (i := 1300) (by decide +kernel) (by decide +kernel)
theorem q_403 : (Cond.static yJ7_fill_53178) ∈ tw := tw_in (i := 403) (by decide +kernel) (by decide +kernel)
theorem dX12_init_185 : decode cX12_init 185 = .ok (.aload_n 0, 1) := by decide +kernel
theorem dX12_init_186 : decode cX12_init 186 = .ok (.getfield 42, 3) := by decide +kernel
theorem dX12_init_189 : decode cX12_init 189 = .ok (.iconst (-1), 1) := by decide +kernel
theorem dX12_init_190 : decode cX12_init 190 = .ok (.invokestatic 87, 3) := by decide +kernel
theorem dX12_init_193 : decode cX12_init 193 = .ok (.aload_n 0, 1) := by decide +kernel
theorem dX12_init_194 : decode cX12_init 194 = .ok (.getfield 45, 3) := by decide +kernel
theorem dX12_init_197 : decode cX12_init 197 = .ok (.iconst (-1), 1) := by decide +kernel
theorem dX12_init_198 : decode cX12_init 198 = .ok (.invokestatic 87, 3) := by decide +kernel
theorem dX12_init_201 : decode cX12_init 201 = .ok (.aload_n 0, 1) := by decide +kernel
theorem dX12_init_202 : decode cX12_init 202 = .ok (.getfield 48, 3) := by decide +kernel
theorem dX12_init_205 : decode cX12_init 205 = .ok (.iconst (-1), 1) := by decide +kernel
theorem dX12_init_206 : decode cX12_init 206 = .ok (.invokestatic 87, 3) := by decide +kernel
theorem dX12_init_209 : decode cX12_init 209 = .ok (.aload_n 0, 1) := by decide +kernel
theorem dX12_init_210 : decode cX12_init 210 = .ok (.getfield 51, 3) := by decide +kernel
theorem dX12_init_213 : decode cX12_init 213 = .ok (.iconst (-1), 1) := by decide +kernel
theorem dX12_init_214 : decode cX12_init 214 = .ok (.invokestatic 87, 3) := by decide +kernel
theorem dX12_init_217 : decode cX12_init 217 = .ok (.aload_n 0, 1) := by decide +kernel
theorem dX12_init_218 : decode cX12_init 218 = .ok (.getfield 57, 3) := by decide +kernel
theorem dX12_init_221 : decode cX12_init 221 = .ok (.bipush 45, 2) := by decide +kernel
theorem dX12_init_223 : decode cX12_init 223 = .ok (.invokestatic 93, 3) := by decide +kernel
theorem q_1303 : (Cond.code yJ7_fill_18040 cJ7_fill_18040 4 none) ∈ tw := tw_in (i := 1303) (by decide +kernel) (by decide +kernel)
theorem q_1301 : (Cond.methodLink "NightfallVillageModel" 93 yJ7_fill_18040) ∈ tw := tw_in (i := 1301) (by decide +kernel) (by decide +kernel)
theorem q_1302 : (Cond.static yJ7_fill_18040) ∈ tw := tw_in (i := 1302) (by decide +kernel) (by decide +kernel)
theorem dX12_init_226 : decode cX12_init 226 = .ok (.return_, 1) := by decide +kernel
set_option maxHeartbeats 4000000 in
set_option maxRecDepth 100000 in
theorem c_M_init (l : Launch) (hst : l.stackTraces = false) (tE : Nat) (adK adV : Nat → Nat) (dC : Nat → ClassId) (dI : Nat → Nat → Nat) (h0 : Nat) (sz : Nat) : Met l yX12_init (Cond.code yX12_init cX12_init 1 none :: tw) ({ frames := 4, cells := 17, slots := 91, locals := 72 }) (va_Pc [.ref h0] (pre tE adK adV (dC, dI) [(h0, .inr (12, [.int 0, .null, .null, .null, .int 0, .int 0, .int 0, .null, .null, .null, .null, .null, .null, .null, .null, .null, .int 0, .int 0, .null, .int 0, .int 0, .null, .null, .null, .null, .null]))] [] sz)) (va_Qv (fun (_ : Unit) => True) (fun (_ : Unit) (t : State) => ∃ (lr : Nat) (ld : Nat) (o1 : Nat) (o2 : Nat) (o3 : Nat) (o4 : Nat) (o5 : Nat) (o6 : Nat) (o7 : Nat) (o8 : Nat) (o9 : Nat) (o10 : Nat) (t1 : Nat) (t2 : Nat) (t3 : Nat) (t4 : Nat) (t5 : Nat), va_P (dC, dI) cls [(h0, .inr (12, [.int 0, .ref lr, .ref ld, .ref o1, .int (-1), .int (-1), .int 0, .ref o2, .ref o3, .ref o4, .ref o5, .ref o6, .ref o7, .ref o8, .ref o9, .ref o10, .int 0, .int 0, .null, .int 0, .int 45, .ref t1, .ref t2, .ref t3, .ref t4, .ref t5])), (lr, .inr (14, [.int 0, .ref tE, .int 0])), (ld, .inr (14, [.int 0, .ref tE, .int 0]))] t.heap ∧ va_K (dC, dI) cls [] t ∧ va_D (va_A [(h0, .inr (12, [.int 0, .null, .null, .null, .int 0, .int 0, .int 0, .null, .null, .null, .null, .null, .null, .null, .null, .null, .int 0, .int 0, .null, .int 0, .int 0, .null, .null, .null, .null, .null]))] sz) [(h0, .inr (12, [.int 0, .ref lr, .ref ld, .ref o1, .int (-1), .int (-1), .int 0, .ref o2, .ref o3, .ref o4, .ref o5, .ref o6, .ref o7, .ref o8, .ref o9, .ref o10, .int 0, .int 0, .null, .int 0, .int 45, .ref t1, .ref t2, .ref t3, .ref t4, .ref t5])), (lr, .inr (14, [.int 0, .ref tE, .int 0])), (ld, .inr (14, [.int 0, .ref tE, .int 0]))]) (va_A [(h0, .inr (12, [.int 0, .null, .null, .null, .int 0, .int 0, .int 0, .null, .null, .null, .null, .null, .null, .null, .null, .null, .int 0, .int 0, .null, .int 0, .int 0, .null, .null, .null, .null, .null]))] sz)) 17 91 (va_A [(h0, .inr (12, [.int 0, .null, .null, .null, .int 0, .int 0, .int 0, .null, .null, .null, .null, .null, .null, .null, .null, .null, .int 0, .int 0, .null, .int 0, .int 0, .null, .null, .null, .null, .null]))] sz) := by
  refine Met.ofW (cc := cX12_init) (maxL := 1) (ret := none) (by decide) rfl ?_
  intro p e s m args below meth c s₁ B hml hv
  obtain ⟨rfl, hsz, hP, hK, hD0, ham⟩ := hv
  have hx := B.exec
  have hb := B.bytes
  have hr := B.returns
  have hts := atoms_spec B.pre
  have hq : ∀ w ∈ tw, w.before _ s = true := fun w h => hts w (List.mem_cons_of_mem _ h)
  have hown : s.vm.findClass RX12 = some m.cls := findClass_of_methodNamed B.named
  have hlocks := B.notSynchronized
  have hin : meth.name = "<init>" := (name_of_methodNamed B.named B.method).1
  subst hsz
  have hD := hD0.self (sz := s.heap.size)
  generalize hAe : va_A [(h0, .inr (12, [.int 0, .null, .null, .null, .int 0, .int 0, .int 0, .null, .null, .null, .null, .null, .null, .null, .null, .null, .int 0, .int 0, .null, .int 0, .int 0, .null, .null, .null, .null, .null]))] s.heap.size = A at hD ham ⊢
  have hA : ∀ q : Nat, s.heap.size ≤ q → A q := fun q h => by rw [← hAe]; exact Or.inr h
  have hS : va_S A s.heap s.heap [] := va_S.rf
  have hP : va_P (dC, dI) cls [(h0, .inr (12, [.int 0, .null, .null, .null, .int 0, .int 0, .int 0, .null, .null, .null, .null, .null, .null, .null, .null, .null, .int 0, .int 0, .null, .int 0, .int 0, .null, .null, .null, .null, .null]))] s.heap := hP
  have hl := lv_entry ([.ref h0]) (n := 1) (Nat.le_of_ble_eq_true rfl)
  rw [lg_entry_eq]
  generalize (lg_sl ([.ref h0]) ++ List.replicate (1 - (lg_sl ([.ref h0])).length) Slot.unset).toArray = ls at hl ⊢
  have hl : lv_has ls 1 [(0, .ref h0)] := hl
  refine lv_aload_n hx hb dX12_init_0 rfl (lv_at hl 0 rfl) ?_
  refine W.objInit hx hb hown (hq _ q_1270) (hq _ q_45) (hq _ q_46) rfl (by rw [hml]; exact hl.1) rfl dX12_init_1 (Nat.le_of_ble_eq_true rfl) (Nat.le_of_ble_eq_true rfl) ?_
  refine W.eq (g2 := F0 m 4 ls []) rfl ?_
  refine lv_aload_n hx hb dX12_init_4 rfl (lv_at hl 0 rfl) ?_
  refine va_new (ci := 14) (fs := [.int 0, .null, .int 0]) (C := RJx4a65c) (T := TJx4a65c) (N := 3) hx hb hq i_Jx4a65c tyJx4a65c tyJx4a65c_ok hown (hq _ q_1271) (hq _ q_1272) (hq _ q_15) hK hP hD hS hA rfl (fun j hj => by rcases (show j = 0 ∨ j = 1 ∨ j = 2 by omega) with rfl | rfl | rfl <;> rfl) (Nat.le_of_ble_eq_true rfl) (Nat.le_of_ble_eq_true rfl) dX12_init_5 (fun a_1 H hP hD hS => ?_)
  have hP : va_P (dC, dI) cls [(h0, .inr (12, [.int 0, .null, .null, .null, .int 0, .int 0, .int 0, .null, .null, .null, .null, .null, .null, .null, .null, .null, .int 0, .int 0, .null, .int 0, .int 0, .null, .null, .null, .null, .null])), (a_1, .inr (14, [.int 0, .null, .int 0]))] H := hP
  have hD : va_D A [(h0, .inr (12, [.int 0, .null, .null, .null, .int 0, .int 0, .int 0, .null, .null, .null, .null, .null, .null, .null, .null, .null, .int 0, .int 0, .null, .int 0, .int 0, .null, .null, .null, .null, .null])), (a_1, .inr (14, [.int 0, .null, .int 0]))] := hD
  refine W.widen (k := 1) (n := 3) (Nat.le_of_ble_eq_true rfl) (Nat.le_of_ble_eq_true rfl) ?_
  refine lv_dup hx hb dX12_init_8 rfl ?_
  have hPc := hP.sub (ws' := [(a_1, .inr (14, [.int 0, .null, .int 0]))]) [1] rfl
  have hKc := hK.sub (tys' := []) [] rfl
  have hDc := hD.sub (ws' := [(a_1, .inr (14, [.int 0, .null, .int 0]))]) [1] (by decide) rfl
  have hFc := va_free (wc := [(a_1, .inr (14, [.int 0, .null, .int 0]))]) hD hS hA [1] rfl
  refine va_callv (va_runI (As := []) (rest := [.ref a_1, .ref h0]) ⟨hx, hb, hml, hown, hq⟩ (c_AL_init l hst tE adK adV dC dI a_1 H.size) (tcI 0 hq q_1275 q_15 q_1273 q_1274 rfl rfl rfl (by decide +kernel) ⟨Nat.le_of_ble_eq_true rfl, Nat.le_of_ble_eq_true rfl⟩) (pre.S (pre.of hPc hDc hKc ham hS hFc)) rfl rfl hl.1 rfl (lv_room (Nat.le_of_ble_eq_true rfl)) dX12_init_9 ⟨Nat.le_of_ble_eq_true rfl, Nat.le_of_ble_eq_true rfl⟩) hS (fun q _ h => hFc q h) hFc (fun u t H1 locs ht hvm hw hB hz1 hk1 hS => ?_)
  obtain ⟨hP1, hK1, hD1⟩ := hB
  rw [ht] at hP1
  have hK1 := va_K.moved hvm.symm hK1
  obtain ⟨hP, hD⟩ := va_join (wr := [(h0, .inr (12, [.int 0, .null, .null, .null, .int 0, .int 0, .int 0, .null, .null, .null, .null, .null, .null, .null, .null, .null, .int 0, .int 0, .null, .int 0, .int 0, .null, .null, .null, .null, .null]))]) (w1 := [(a_1, .inr (14, [.int 0, .ref tE, .int 0]))]) (wc := [(a_1, .inr (14, [.int 0, .null, .int 0]))]) hP hD [1] [0] rfl rfl (by decide) (by decide) hk1 hFc hP1 hD1
  have hK := (hK.sub (tys' := []) [] rfl).app hK1
  generalize H1 = H at hP hS ⊢
  have hP : va_P (dC, dI) cls [(h0, .inr (12, [.int 0, .null, .null, .null, .int 0, .int 0, .int 0, .null, .null, .null, .null, .null, .null, .null, .null, .null, .int 0, .int 0, .null, .int 0, .int 0, .null, .null, .null, .null, .null])), (a_1, .inr (14, [.int 0, .ref tE, .int 0]))] H := hP
  have hD : va_D A [(h0, .inr (12, [.int 0, .null, .null, .null, .int 0, .int 0, .int 0, .null, .null, .null, .null, .null, .null, .null, .null, .null, .int 0, .int 0, .null, .int 0, .int 0, .null, .null, .null, .null, .null])), (a_1, .inr (14, [.int 0, .ref tE, .int 0]))] := hD
  have hK : va_K (dC, dI) cls [] s := hK
  refine W.widen (k := 1) (n := 3) (Nat.le_of_ble_eq_true rfl) (Nat.le_of_ble_eq_true rfl) ?_
  refine va_putF (D := (dC, dI)) (ci := 12) (v := .ref a_1) (ty := (.object "java/util/List")) (C := RX12) (T := TX12) (N := 26) hx hb hq i_X12 tyX12 tyX12_ok nmX12 hown hK hP hD hS 0 rfl rfl 1 (by decide) (hq _ q_1305) (fun _ h9 => h9) rfl hin rfl (by decide +kernel) rfl rfl (Nat.le_of_ble_eq_true rfl) dX12_init_12 (fun H locs hP hD hS => ?_)
  have hP : va_P (dC, dI) cls [(h0, .inr (12, [.int 0, .ref a_1, .null, .null, .int 0, .int 0, .int 0, .null, .null, .null, .null, .null, .null, .null, .null, .null, .int 0, .int 0, .null, .int 0, .int 0, .null, .null, .null, .null, .null])), (a_1, .inr (14, [.int 0, .ref tE, .int 0]))] H := hP
  have hD : va_D A [(h0, .inr (12, [.int 0, .ref a_1, .null, .null, .int 0, .int 0, .int 0, .null, .null, .null, .null, .null, .null, .null, .null, .null, .int 0, .int 0, .null, .int 0, .int 0, .null, .null, .null, .null, .null])), (a_1, .inr (14, [.int 0, .ref tE, .int 0]))] := hD
  refine lv_aload_n hx hb dX12_init_15 rfl (lv_at hl 0 rfl) ?_
  refine va_new (ci := 14) (fs := [.int 0, .null, .int 0]) (C := RJx4a65c) (T := TJx4a65c) (N := 3) hx hb hq i_Jx4a65c tyJx4a65c tyJx4a65c_ok hown (hq _ q_1271) (hq _ q_1272) (hq _ q_15) hK hP hD hS hA rfl (fun j hj => by rcases (show j = 0 ∨ j = 1 ∨ j = 2 by omega) with rfl | rfl | rfl <;> rfl) (Nat.le_of_ble_eq_true rfl) (Nat.le_of_ble_eq_true rfl) dX12_init_16 (fun a_3 H hP hD hS => ?_)
  have hP : va_P (dC, dI) cls [(h0, .inr (12, [.int 0, .ref a_1, .null, .null, .int 0, .int 0, .int 0, .null, .null, .null, .null, .null, .null, .null, .null, .null, .int 0, .int 0, .null, .int 0, .int 0, .null, .null, .null, .null, .null])), (a_1, .inr (14, [.int 0, .ref tE, .int 0])), (a_3, .inr (14, [.int 0, .null, .int 0]))] H := hP
  have hD : va_D A [(h0, .inr (12, [.int 0, .ref a_1, .null, .null, .int 0, .int 0, .int 0, .null, .null, .null, .null, .null, .null, .null, .null, .null, .int 0, .int 0, .null, .int 0, .int 0, .null, .null, .null, .null, .null])), (a_1, .inr (14, [.int 0, .ref tE, .int 0])), (a_3, .inr (14, [.int 0, .null, .int 0]))] := hD
  refine W.widen (k := 2) (n := 6) (Nat.le_of_ble_eq_true rfl) (Nat.le_of_ble_eq_true rfl) ?_
  refine lv_dup hx hb dX12_init_19 rfl ?_
  have hPc := hP.sub (ws' := [(a_3, .inr (14, [.int 0, .null, .int 0]))]) [2] rfl
  have hKc := hK.sub (tys' := []) [] rfl
  have hDc := hD.sub (ws' := [(a_3, .inr (14, [.int 0, .null, .int 0]))]) [2] (by decide) rfl
  have hFc := va_free (wc := [(a_3, .inr (14, [.int 0, .null, .int 0]))]) hD hS hA [2] rfl
  refine va_callv (va_runI (As := []) (rest := [.ref a_3, .ref h0]) ⟨hx, hb, hml, hown, hq⟩ (c_AL_init l hst tE adK adV dC dI a_3 H.size) (tcI 0 hq q_1275 q_15 q_1273 q_1274 rfl rfl rfl (by decide +kernel) ⟨Nat.le_of_ble_eq_true rfl, Nat.le_of_ble_eq_true rfl⟩) (pre.S (pre.of hPc hDc hKc ham hS hFc)) rfl rfl hl.1 rfl (lv_room (Nat.le_of_ble_eq_true rfl)) dX12_init_20 ⟨Nat.le_of_ble_eq_true rfl, Nat.le_of_ble_eq_true rfl⟩) hS (fun q _ h => hFc q h) hFc (fun u t H1 locs ht hvm hw hB hz1 hk1 hS => ?_)
  obtain ⟨hP1, hK1, hD1⟩ := hB
  rw [ht] at hP1
  have hK1 := va_K.moved hvm.symm hK1
  obtain ⟨hP, hD⟩ := va_join (wr := [(h0, .inr (12, [.int 0, .ref a_1, .null, .null, .int 0, .int 0, .int 0, .null, .null, .null, .null, .null, .null, .null, .null, .null, .int 0, .int 0, .null, .int 0, .int 0, .null, .null, .null, .null, .null])), (a_1, .inr (14, [.int 0, .ref tE, .int 0]))]) (w1 := [(a_3, .inr (14, [.int 0, .ref tE, .int 0]))]) (wc := [(a_3, .inr (14, [.int 0, .null, .int 0]))]) hP hD [2] [0, 1] rfl rfl (by decide) (by decide) hk1 hFc hP1 hD1
  have hK := (hK.sub (tys' := []) [] rfl).app hK1
  generalize H1 = H at hP hS ⊢
  have hP : va_P (dC, dI) cls [(h0, .inr (12, [.int 0, .ref a_1, .null, .null, .int 0, .int 0, .int 0, .null, .null, .null, .null, .null, .null, .null, .null, .null, .int 0, .int 0, .null, .int 0, .int 0, .null, .null, .null, .null, .null])), (a_1, .inr (14, [.int 0, .ref tE, .int 0])), (a_3, .inr (14, [.int 0, .ref tE, .int 0]))] H := hP
  have hD : va_D A [(h0, .inr (12, [.int 0, .ref a_1, .null, .null, .int 0, .int 0, .int 0, .null, .null, .null, .null, .null, .null, .null, .null, .null, .int 0, .int 0, .null, .int 0, .int 0, .null, .null, .null, .null, .null])), (a_1, .inr (14, [.int 0, .ref tE, .int 0])), (a_3, .inr (14, [.int 0, .ref tE, .int 0]))] := hD
  have hK : va_K (dC, dI) cls [] s := hK
  refine W.widen (k := 2) (n := 6) (Nat.le_of_ble_eq_true rfl) (Nat.le_of_ble_eq_true rfl) ?_
  refine va_putF (D := (dC, dI)) (ci := 12) (v := .ref a_3) (ty := (.object "java/util/List")) (C := RX12) (T := TX12) (N := 26) hx hb hq i_X12 tyX12 tyX12_ok nmX12 hown hK hP hD hS 0 rfl rfl 2 (by decide) (hq _ q_1306) (fun _ h9 => h9) rfl hin rfl (by decide +kernel) rfl rfl (Nat.le_of_ble_eq_true rfl) dX12_init_23 (fun H locs hP hD hS => ?_)
  have hP : va_P (dC, dI) cls [(h0, .inr (12, [.int 0, .ref a_1, .ref a_3, .null, .int 0, .int 0, .int 0, .null, .null, .null, .null, .null, .null, .null, .null, .null, .int 0, .int 0, .null, .int 0, .int 0, .null, .null, .null, .null, .null])), (a_1, .inr (14, [.int 0, .ref tE, .int 0])), (a_3, .inr (14, [.int 0, .ref tE, .int 0]))] H := hP
  have hD : va_D A [(h0, .inr (12, [.int 0, .ref a_1, .ref a_3, .null, .int 0, .int 0, .int 0, .null, .null, .null, .null, .null, .null, .null, .null, .null, .int 0, .int 0, .null, .int 0, .int 0, .null, .null, .null, .null, .null])), (a_1, .inr (14, [.int 0, .ref tE, .int 0])), (a_3, .inr (14, [.int 0, .ref tE, .int 0]))] := hD
  refine lv_aload_n hx hb dX12_init_26 rfl (lv_at hl 0 rfl) ?_
  refine lv_bipush (v := 7) hx hb dX12_init_27 (by decide) ?_
  refine va_newa (atype := .int) (a0 := (7, .inl (fun _ => 0))) hx hb (hq _ q_81) rfl hK hP hD hS hA (fun _ => rfl) (by decide) (by decide) (Nat.le_of_ble_eq_true rfl) (Nat.le_of_ble_eq_true rfl) (Nat.le_of_ble_eq_true rfl) dX12_init_29 (fun a_5 cA_6 H hK hP hD hS => ?_)
  have hP : va_P (dC, dI) cls [(h0, .inr (12, [.int 0, .ref a_1, .ref a_3, .null, .int 0, .int 0, .int 0, .null, .null, .null, .null, .null, .null, .null, .null, .null, .int 0, .int 0, .null, .int 0, .int 0, .null, .null, .null, .null, .null])), (a_1, .inr (14, [.int 0, .ref tE, .int 0])), (a_3, .inr (14, [.int 0, .ref tE, .int 0])), (a_5, .inl (cA_6, 7, .inl (fun _ => 0)))] H := hP
  have hD : va_D A [(h0, .inr (12, [.int 0, .ref a_1, .ref a_3, .null, .int 0, .int 0, .int 0, .null, .null, .null, .null, .null, .null, .null, .null, .null, .int 0, .int 0, .null, .int 0, .int 0, .null, .null, .null, .null, .null])), (a_1, .inr (14, [.int 0, .ref tE, .int 0])), (a_3, .inr (14, [.int 0, .ref tE, .int 0])), (a_5, .inl (cA_6, 7, .inl (fun _ => 0)))] := hD
  have hK : va_K (dC, dI) cls [(cA_6, .int)] s := hK
  refine W.widen (k := 3) (n := 13) (Nat.le_of_ble_eq_true rfl) (Nat.le_of_ble_eq_true rfl) ?_
  refine va_putF (D := (dC, dI)) (ci := 12) (v := .ref a_5) (ty := (.array .int)) (C := RX12) (T := TX12) (N := 26) hx hb hq i_X12 tyX12 tyX12_ok nmX12 hown hK hP hD hS 0 rfl rfl 3 (by decide) (hq _ q_1307) (fun _ h9 => h9) rfl hin rfl (by decide +kernel) rfl rfl (Nat.le_of_ble_eq_true rfl) dX12_init_31 (fun H locs hP hD hS => ?_)
  have hP : va_P (dC, dI) cls [(h0, .inr (12, [.int 0, .ref a_1, .ref a_3, .ref a_5, .int 0, .int 0, .int 0, .null, .null, .null, .null, .null, .null, .null, .null, .null, .int 0, .int 0, .null, .int 0, .int 0, .null, .null, .null, .null, .null])), (a_1, .inr (14, [.int 0, .ref tE, .int 0])), (a_3, .inr (14, [.int 0, .ref tE, .int 0])), (a_5, .inl (cA_6, 7, .inl (fun _ => 0)))] H := hP
  have hD : va_D A [(h0, .inr (12, [.int 0, .ref a_1, .ref a_3, .ref a_5, .int 0, .int 0, .int 0, .null, .null, .null, .null, .null, .null, .null, .null, .null, .int 0, .int 0, .null, .int 0, .int 0, .null, .null, .null, .null, .null])), (a_1, .inr (14, [.int 0, .ref tE, .int 0])), (a_3, .inr (14, [.int 0, .ref tE, .int 0])), (a_5, .inl (cA_6, 7, .inl (fun _ => 0)))] := hD
  refine lv_aload_n hx hb dX12_init_34 rfl (lv_at hl 0 rfl) ?_
  refine lv_iconst (v := (-1)) hx hb dX12_init_35 (by decide) ?_
  refine va_put (D := (dC, dI)) (ci := 12) (v := .int (-1)) (ty := .int) (C := RX12) (T := TX12) (N := 26) hx hb hq i_X12 tyX12 tyX12_ok nmX12 hown hK hP hD hS 0 rfl rfl 4 (by decide) (hq _ q_1308) (fun _ h9 => h9) rfl (by decide +kernel) rfl rfl (Nat.le_of_ble_eq_true rfl) dX12_init_36 (fun H locs hP hD hS => ?_)
  have hP : va_P (dC, dI) cls [(h0, .inr (12, [.int 0, .ref a_1, .ref a_3, .ref a_5, .int (-1), .int 0, .int 0, .null, .null, .null, .null, .null, .null, .null, .null, .null, .int 0, .int 0, .null, .int 0, .int 0, .null, .null, .null, .null, .null])), (a_1, .inr (14, [.int 0, .ref tE, .int 0])), (a_3, .inr (14, [.int 0, .ref tE, .int 0])), (a_5, .inl (cA_6, 7, .inl (fun _ => 0)))] H := hP
  have hD : va_D A [(h0, .inr (12, [.int 0, .ref a_1, .ref a_3, .ref a_5, .int (-1), .int 0, .int 0, .null, .null, .null, .null, .null, .null, .null, .null, .null, .int 0, .int 0, .null, .int 0, .int 0, .null, .null, .null, .null, .null])), (a_1, .inr (14, [.int 0, .ref tE, .int 0])), (a_3, .inr (14, [.int 0, .ref tE, .int 0])), (a_5, .inl (cA_6, 7, .inl (fun _ => 0)))] := hD
  refine lv_aload_n hx hb dX12_init_39 rfl (lv_at hl 0 rfl) ?_
  refine lv_iconst (v := (-1)) hx hb dX12_init_40 (by decide) ?_
  refine va_put (D := (dC, dI)) (ci := 12) (v := .int (-1)) (ty := .int) (C := RX12) (T := TX12) (N := 26) hx hb hq i_X12 tyX12 tyX12_ok nmX12 hown hK hP hD hS 0 rfl rfl 5 (by decide) (hq _ q_1309) (fun _ h9 => h9) rfl (by decide +kernel) rfl rfl (Nat.le_of_ble_eq_true rfl) dX12_init_41 (fun H locs hP hD hS => ?_)
  have hP : va_P (dC, dI) cls [(h0, .inr (12, [.int 0, .ref a_1, .ref a_3, .ref a_5, .int (-1), .int (-1), .int 0, .null, .null, .null, .null, .null, .null, .null, .null, .null, .int 0, .int 0, .null, .int 0, .int 0, .null, .null, .null, .null, .null])), (a_1, .inr (14, [.int 0, .ref tE, .int 0])), (a_3, .inr (14, [.int 0, .ref tE, .int 0])), (a_5, .inl (cA_6, 7, .inl (fun _ => 0)))] H := hP
  have hD : va_D A [(h0, .inr (12, [.int 0, .ref a_1, .ref a_3, .ref a_5, .int (-1), .int (-1), .int 0, .null, .null, .null, .null, .null, .null, .null, .null, .null, .int 0, .int 0, .null, .int 0, .int 0, .null, .null, .null, .null, .null])), (a_1, .inr (14, [.int 0, .ref tE, .int 0])), (a_3, .inr (14, [.int 0, .ref tE, .int 0])), (a_5, .inl (cA_6, 7, .inl (fun _ => 0)))] := hD
  refine lv_aload_n hx hb dX12_init_44 rfl (lv_at hl 0 rfl) ?_
  refine lv_bipush (v := 7) hx hb dX12_init_45 (by decide) ?_
  refine va_newa (atype := .int) (a0 := (7, .inl (fun _ => 0))) hx hb (hq _ q_81) rfl hK hP hD hS hA (fun _ => rfl) (by decide) (by decide) (Nat.le_of_ble_eq_true rfl) (Nat.le_of_ble_eq_true rfl) (Nat.le_of_ble_eq_true rfl) dX12_init_47 (fun a_7 cA_8 H hK hP hD hS => ?_)
  have hP : va_P (dC, dI) cls [(h0, .inr (12, [.int 0, .ref a_1, .ref a_3, .ref a_5, .int (-1), .int (-1), .int 0, .null, .null, .null, .null, .null, .null, .null, .null, .null, .int 0, .int 0, .null, .int 0, .int 0, .null, .null, .null, .null, .null])), (a_1, .inr (14, [.int 0, .ref tE, .int 0])), (a_3, .inr (14, [.int 0, .ref tE, .int 0])), (a_5, .inl (cA_6, 7, .inl (fun _ => 0))), (a_7, .inl (cA_8, 7, .inl (fun _ => 0)))] H := hP
  have hD : va_D A [(h0, .inr (12, [.int 0, .ref a_1, .ref a_3, .ref a_5, .int (-1), .int (-1), .int 0, .null, .null, .null, .null, .null, .null, .null, .null, .null, .int 0, .int 0, .null, .int 0, .int 0, .null, .null, .null, .null, .null])), (a_1, .inr (14, [.int 0, .ref tE, .int 0])), (a_3, .inr (14, [.int 0, .ref tE, .int 0])), (a_5, .inl (cA_6, 7, .inl (fun _ => 0))), (a_7, .inl (cA_8, 7, .inl (fun _ => 0)))] := hD
  have hK : va_K (dC, dI) cls [(cA_6, .int), (cA_8, .int)] s := hK
  refine W.widen (k := 4) (n := 20) (Nat.le_of_ble_eq_true rfl) (Nat.le_of_ble_eq_true rfl) ?_
  refine va_putF (D := (dC, dI)) (ci := 12) (v := .ref a_7) (ty := (.array .int)) (C := RX12) (T := TX12) (N := 26) hx hb hq i_X12 tyX12 tyX12_ok nmX12 hown hK hP hD hS 0 rfl rfl 7 (by decide) (hq _ q_1311) (fun _ h9 => h9) rfl hin rfl (by decide +kernel) rfl rfl (Nat.le_of_ble_eq_true rfl) dX12_init_49 (fun H locs hP hD hS => ?_)
  have hP : va_P (dC, dI) cls [(h0, .inr (12, [.int 0, .ref a_1, .ref a_3, .ref a_5, .int (-1), .int (-1), .int 0, .ref a_7, .null, .null, .null, .null, .null, .null, .null, .null, .int 0, .int 0, .null, .int 0, .int 0, .null, .null, .null, .null, .null])), (a_1, .inr (14, [.int 0, .ref tE, .int 0])), (a_3, .inr (14, [.int 0, .ref tE, .int 0])), (a_5, .inl (cA_6, 7, .inl (fun _ => 0))), (a_7, .inl (cA_8, 7, .inl (fun _ => 0)))] H := hP
  have hD : va_D A [(h0, .inr (12, [.int 0, .ref a_1, .ref a_3, .ref a_5, .int (-1), .int (-1), .int 0, .ref a_7, .null, .null, .null, .null, .null, .null, .null, .null, .int 0, .int 0, .null, .int 0, .int 0, .null, .null, .null, .null, .null])), (a_1, .inr (14, [.int 0, .ref tE, .int 0])), (a_3, .inr (14, [.int 0, .ref tE, .int 0])), (a_5, .inl (cA_6, 7, .inl (fun _ => 0))), (a_7, .inl (cA_8, 7, .inl (fun _ => 0)))] := hD
  refine lv_aload_n hx hb dX12_init_52 rfl (lv_at hl 0 rfl) ?_
  refine lv_bipush (v := 7) hx hb dX12_init_53 (by decide) ?_
  refine va_newa (atype := .int) (a0 := (7, .inl (fun _ => 0))) hx hb (hq _ q_81) rfl hK hP hD hS hA (fun _ => rfl) (by decide) (by decide) (Nat.le_of_ble_eq_true rfl) (Nat.le_of_ble_eq_true rfl) (Nat.le_of_ble_eq_true rfl) dX12_init_55 (fun a_9 cA_10 H hK hP hD hS => ?_)
  have hP : va_P (dC, dI) cls [(h0, .inr (12, [.int 0, .ref a_1, .ref a_3, .ref a_5, .int (-1), .int (-1), .int 0, .ref a_7, .null, .null, .null, .null, .null, .null, .null, .null, .int 0, .int 0, .null, .int 0, .int 0, .null, .null, .null, .null, .null])), (a_1, .inr (14, [.int 0, .ref tE, .int 0])), (a_3, .inr (14, [.int 0, .ref tE, .int 0])), (a_5, .inl (cA_6, 7, .inl (fun _ => 0))), (a_7, .inl (cA_8, 7, .inl (fun _ => 0))), (a_9, .inl (cA_10, 7, .inl (fun _ => 0)))] H := hP
  have hD : va_D A [(h0, .inr (12, [.int 0, .ref a_1, .ref a_3, .ref a_5, .int (-1), .int (-1), .int 0, .ref a_7, .null, .null, .null, .null, .null, .null, .null, .null, .int 0, .int 0, .null, .int 0, .int 0, .null, .null, .null, .null, .null])), (a_1, .inr (14, [.int 0, .ref tE, .int 0])), (a_3, .inr (14, [.int 0, .ref tE, .int 0])), (a_5, .inl (cA_6, 7, .inl (fun _ => 0))), (a_7, .inl (cA_8, 7, .inl (fun _ => 0))), (a_9, .inl (cA_10, 7, .inl (fun _ => 0)))] := hD
  have hK : va_K (dC, dI) cls [(cA_6, .int), (cA_8, .int), (cA_10, .int)] s := hK
  refine W.widen (k := 5) (n := 27) (Nat.le_of_ble_eq_true rfl) (Nat.le_of_ble_eq_true rfl) ?_
  refine va_putF (D := (dC, dI)) (ci := 12) (v := .ref a_9) (ty := (.array .int)) (C := RX12) (T := TX12) (N := 26) hx hb hq i_X12 tyX12 tyX12_ok nmX12 hown hK hP hD hS 0 rfl rfl 8 (by decide) (hq _ q_1312) (fun _ h9 => h9) rfl hin rfl (by decide +kernel) rfl rfl (Nat.le_of_ble_eq_true rfl) dX12_init_57 (fun H locs hP hD hS => ?_)
  have hP : va_P (dC, dI) cls [(h0, .inr (12, [.int 0, .ref a_1, .ref a_3, .ref a_5, .int (-1), .int (-1), .int 0, .ref a_7, .ref a_9, .null, .null, .null, .null, .null, .null, .null, .int 0, .int 0, .null, .int 0, .int 0, .null, .null, .null, .null, .null])), (a_1, .inr (14, [.int 0, .ref tE, .int 0])), (a_3, .inr (14, [.int 0, .ref tE, .int 0])), (a_5, .inl (cA_6, 7, .inl (fun _ => 0))), (a_7, .inl (cA_8, 7, .inl (fun _ => 0))), (a_9, .inl (cA_10, 7, .inl (fun _ => 0)))] H := hP
  have hD : va_D A [(h0, .inr (12, [.int 0, .ref a_1, .ref a_3, .ref a_5, .int (-1), .int (-1), .int 0, .ref a_7, .ref a_9, .null, .null, .null, .null, .null, .null, .null, .int 0, .int 0, .null, .int 0, .int 0, .null, .null, .null, .null, .null])), (a_1, .inr (14, [.int 0, .ref tE, .int 0])), (a_3, .inr (14, [.int 0, .ref tE, .int 0])), (a_5, .inl (cA_6, 7, .inl (fun _ => 0))), (a_7, .inl (cA_8, 7, .inl (fun _ => 0))), (a_9, .inl (cA_10, 7, .inl (fun _ => 0)))] := hD
  refine lv_aload_n hx hb dX12_init_60 rfl (lv_at hl 0 rfl) ?_
  refine lv_bipush (v := 7) hx hb dX12_init_61 (by decide) ?_
  refine va_newa (atype := .int) (a0 := (7, .inl (fun _ => 0))) hx hb (hq _ q_81) rfl hK hP hD hS hA (fun _ => rfl) (by decide) (by decide) (Nat.le_of_ble_eq_true rfl) (Nat.le_of_ble_eq_true rfl) (Nat.le_of_ble_eq_true rfl) dX12_init_63 (fun a_11 cA_12 H hK hP hD hS => ?_)
  have hP : va_P (dC, dI) cls [(h0, .inr (12, [.int 0, .ref a_1, .ref a_3, .ref a_5, .int (-1), .int (-1), .int 0, .ref a_7, .ref a_9, .null, .null, .null, .null, .null, .null, .null, .int 0, .int 0, .null, .int 0, .int 0, .null, .null, .null, .null, .null])), (a_1, .inr (14, [.int 0, .ref tE, .int 0])), (a_3, .inr (14, [.int 0, .ref tE, .int 0])), (a_5, .inl (cA_6, 7, .inl (fun _ => 0))), (a_7, .inl (cA_8, 7, .inl (fun _ => 0))), (a_9, .inl (cA_10, 7, .inl (fun _ => 0))), (a_11, .inl (cA_12, 7, .inl (fun _ => 0)))] H := hP
  have hD : va_D A [(h0, .inr (12, [.int 0, .ref a_1, .ref a_3, .ref a_5, .int (-1), .int (-1), .int 0, .ref a_7, .ref a_9, .null, .null, .null, .null, .null, .null, .null, .int 0, .int 0, .null, .int 0, .int 0, .null, .null, .null, .null, .null])), (a_1, .inr (14, [.int 0, .ref tE, .int 0])), (a_3, .inr (14, [.int 0, .ref tE, .int 0])), (a_5, .inl (cA_6, 7, .inl (fun _ => 0))), (a_7, .inl (cA_8, 7, .inl (fun _ => 0))), (a_9, .inl (cA_10, 7, .inl (fun _ => 0))), (a_11, .inl (cA_12, 7, .inl (fun _ => 0)))] := hD
  have hK : va_K (dC, dI) cls [(cA_6, .int), (cA_8, .int), (cA_10, .int), (cA_12, .int)] s := hK
  refine W.widen (k := 6) (n := 34) (Nat.le_of_ble_eq_true rfl) (Nat.le_of_ble_eq_true rfl) ?_
  refine va_putF (D := (dC, dI)) (ci := 12) (v := .ref a_11) (ty := (.array .int)) (C := RX12) (T := TX12) (N := 26) hx hb hq i_X12 tyX12 tyX12_ok nmX12 hown hK hP hD hS 0 rfl rfl 9 (by decide) (hq _ q_1313) (fun _ h9 => h9) rfl hin rfl (by decide +kernel) rfl rfl (Nat.le_of_ble_eq_true rfl) dX12_init_65 (fun H locs hP hD hS => ?_)
  have hP : va_P (dC, dI) cls [(h0, .inr (12, [.int 0, .ref a_1, .ref a_3, .ref a_5, .int (-1), .int (-1), .int 0, .ref a_7, .ref a_9, .ref a_11, .null, .null, .null, .null, .null, .null, .int 0, .int 0, .null, .int 0, .int 0, .null, .null, .null, .null, .null])), (a_1, .inr (14, [.int 0, .ref tE, .int 0])), (a_3, .inr (14, [.int 0, .ref tE, .int 0])), (a_5, .inl (cA_6, 7, .inl (fun _ => 0))), (a_7, .inl (cA_8, 7, .inl (fun _ => 0))), (a_9, .inl (cA_10, 7, .inl (fun _ => 0))), (a_11, .inl (cA_12, 7, .inl (fun _ => 0)))] H := hP
  have hD : va_D A [(h0, .inr (12, [.int 0, .ref a_1, .ref a_3, .ref a_5, .int (-1), .int (-1), .int 0, .ref a_7, .ref a_9, .ref a_11, .null, .null, .null, .null, .null, .null, .int 0, .int 0, .null, .int 0, .int 0, .null, .null, .null, .null, .null])), (a_1, .inr (14, [.int 0, .ref tE, .int 0])), (a_3, .inr (14, [.int 0, .ref tE, .int 0])), (a_5, .inl (cA_6, 7, .inl (fun _ => 0))), (a_7, .inl (cA_8, 7, .inl (fun _ => 0))), (a_9, .inl (cA_10, 7, .inl (fun _ => 0))), (a_11, .inl (cA_12, 7, .inl (fun _ => 0)))] := hD
  refine lv_aload_n hx hb dX12_init_68 rfl (lv_at hl 0 rfl) ?_
  refine lv_bipush (v := 7) hx hb dX12_init_69 (by decide) ?_
  refine va_newa (atype := .int) (a0 := (7, .inl (fun _ => 0))) hx hb (hq _ q_81) rfl hK hP hD hS hA (fun _ => rfl) (by decide) (by decide) (Nat.le_of_ble_eq_true rfl) (Nat.le_of_ble_eq_true rfl) (Nat.le_of_ble_eq_true rfl) dX12_init_71 (fun a_13 cA_14 H hK hP hD hS => ?_)
  have hP : va_P (dC, dI) cls [(h0, .inr (12, [.int 0, .ref a_1, .ref a_3, .ref a_5, .int (-1), .int (-1), .int 0, .ref a_7, .ref a_9, .ref a_11, .null, .null, .null, .null, .null, .null, .int 0, .int 0, .null, .int 0, .int 0, .null, .null, .null, .null, .null])), (a_1, .inr (14, [.int 0, .ref tE, .int 0])), (a_3, .inr (14, [.int 0, .ref tE, .int 0])), (a_5, .inl (cA_6, 7, .inl (fun _ => 0))), (a_7, .inl (cA_8, 7, .inl (fun _ => 0))), (a_9, .inl (cA_10, 7, .inl (fun _ => 0))), (a_11, .inl (cA_12, 7, .inl (fun _ => 0))), (a_13, .inl (cA_14, 7, .inl (fun _ => 0)))] H := hP
  have hD : va_D A [(h0, .inr (12, [.int 0, .ref a_1, .ref a_3, .ref a_5, .int (-1), .int (-1), .int 0, .ref a_7, .ref a_9, .ref a_11, .null, .null, .null, .null, .null, .null, .int 0, .int 0, .null, .int 0, .int 0, .null, .null, .null, .null, .null])), (a_1, .inr (14, [.int 0, .ref tE, .int 0])), (a_3, .inr (14, [.int 0, .ref tE, .int 0])), (a_5, .inl (cA_6, 7, .inl (fun _ => 0))), (a_7, .inl (cA_8, 7, .inl (fun _ => 0))), (a_9, .inl (cA_10, 7, .inl (fun _ => 0))), (a_11, .inl (cA_12, 7, .inl (fun _ => 0))), (a_13, .inl (cA_14, 7, .inl (fun _ => 0)))] := hD
  have hK : va_K (dC, dI) cls [(cA_6, .int), (cA_8, .int), (cA_10, .int), (cA_12, .int), (cA_14, .int)] s := hK
  refine W.widen (k := 7) (n := 41) (Nat.le_of_ble_eq_true rfl) (Nat.le_of_ble_eq_true rfl) ?_
  refine va_putF (D := (dC, dI)) (ci := 12) (v := .ref a_13) (ty := (.array .int)) (C := RX12) (T := TX12) (N := 26) hx hb hq i_X12 tyX12 tyX12_ok nmX12 hown hK hP hD hS 0 rfl rfl 10 (by decide) (hq _ q_1314) (fun _ h9 => h9) rfl hin rfl (by decide +kernel) rfl rfl (Nat.le_of_ble_eq_true rfl) dX12_init_73 (fun H locs hP hD hS => ?_)
  have hP : va_P (dC, dI) cls [(h0, .inr (12, [.int 0, .ref a_1, .ref a_3, .ref a_5, .int (-1), .int (-1), .int 0, .ref a_7, .ref a_9, .ref a_11, .ref a_13, .null, .null, .null, .null, .null, .int 0, .int 0, .null, .int 0, .int 0, .null, .null, .null, .null, .null])), (a_1, .inr (14, [.int 0, .ref tE, .int 0])), (a_3, .inr (14, [.int 0, .ref tE, .int 0])), (a_5, .inl (cA_6, 7, .inl (fun _ => 0))), (a_7, .inl (cA_8, 7, .inl (fun _ => 0))), (a_9, .inl (cA_10, 7, .inl (fun _ => 0))), (a_11, .inl (cA_12, 7, .inl (fun _ => 0))), (a_13, .inl (cA_14, 7, .inl (fun _ => 0)))] H := hP
  have hD : va_D A [(h0, .inr (12, [.int 0, .ref a_1, .ref a_3, .ref a_5, .int (-1), .int (-1), .int 0, .ref a_7, .ref a_9, .ref a_11, .ref a_13, .null, .null, .null, .null, .null, .int 0, .int 0, .null, .int 0, .int 0, .null, .null, .null, .null, .null])), (a_1, .inr (14, [.int 0, .ref tE, .int 0])), (a_3, .inr (14, [.int 0, .ref tE, .int 0])), (a_5, .inl (cA_6, 7, .inl (fun _ => 0))), (a_7, .inl (cA_8, 7, .inl (fun _ => 0))), (a_9, .inl (cA_10, 7, .inl (fun _ => 0))), (a_11, .inl (cA_12, 7, .inl (fun _ => 0))), (a_13, .inl (cA_14, 7, .inl (fun _ => 0)))] := hD
  refine lv_aload_n hx hb dX12_init_76 rfl (lv_at hl 0 rfl) ?_
  refine lv_bipush (v := 7) hx hb dX12_init_77 (by decide) ?_
  refine va_newa (atype := .int) (a0 := (7, .inl (fun _ => 0))) hx hb (hq _ q_81) rfl hK hP hD hS hA (fun _ => rfl) (by decide) (by decide) (Nat.le_of_ble_eq_true rfl) (Nat.le_of_ble_eq_true rfl) (Nat.le_of_ble_eq_true rfl) dX12_init_79 (fun a_15 cA_16 H hK hP hD hS => ?_)
  have hP : va_P (dC, dI) cls [(h0, .inr (12, [.int 0, .ref a_1, .ref a_3, .ref a_5, .int (-1), .int (-1), .int 0, .ref a_7, .ref a_9, .ref a_11, .ref a_13, .null, .null, .null, .null, .null, .int 0, .int 0, .null, .int 0, .int 0, .null, .null, .null, .null, .null])), (a_1, .inr (14, [.int 0, .ref tE, .int 0])), (a_3, .inr (14, [.int 0, .ref tE, .int 0])), (a_5, .inl (cA_6, 7, .inl (fun _ => 0))), (a_7, .inl (cA_8, 7, .inl (fun _ => 0))), (a_9, .inl (cA_10, 7, .inl (fun _ => 0))), (a_11, .inl (cA_12, 7, .inl (fun _ => 0))), (a_13, .inl (cA_14, 7, .inl (fun _ => 0))), (a_15, .inl (cA_16, 7, .inl (fun _ => 0)))] H := hP
  have hD : va_D A [(h0, .inr (12, [.int 0, .ref a_1, .ref a_3, .ref a_5, .int (-1), .int (-1), .int 0, .ref a_7, .ref a_9, .ref a_11, .ref a_13, .null, .null, .null, .null, .null, .int 0, .int 0, .null, .int 0, .int 0, .null, .null, .null, .null, .null])), (a_1, .inr (14, [.int 0, .ref tE, .int 0])), (a_3, .inr (14, [.int 0, .ref tE, .int 0])), (a_5, .inl (cA_6, 7, .inl (fun _ => 0))), (a_7, .inl (cA_8, 7, .inl (fun _ => 0))), (a_9, .inl (cA_10, 7, .inl (fun _ => 0))), (a_11, .inl (cA_12, 7, .inl (fun _ => 0))), (a_13, .inl (cA_14, 7, .inl (fun _ => 0))), (a_15, .inl (cA_16, 7, .inl (fun _ => 0)))] := hD
  have hK : va_K (dC, dI) cls [(cA_6, .int), (cA_8, .int), (cA_10, .int), (cA_12, .int), (cA_14, .int), (cA_16, .int)] s := hK
  refine W.widen (k := 8) (n := 48) (Nat.le_of_ble_eq_true rfl) (Nat.le_of_ble_eq_true rfl) ?_
  refine va_putF (D := (dC, dI)) (ci := 12) (v := .ref a_15) (ty := (.array .int)) (C := RX12) (T := TX12) (N := 26) hx hb hq i_X12 tyX12 tyX12_ok nmX12 hown hK hP hD hS 0 rfl rfl 11 (by decide) (hq _ q_1315) (fun _ h9 => h9) rfl hin rfl (by decide +kernel) rfl rfl (Nat.le_of_ble_eq_true rfl) dX12_init_81 (fun H locs hP hD hS => ?_)
  have hP : va_P (dC, dI) cls [(h0, .inr (12, [.int 0, .ref a_1, .ref a_3, .ref a_5, .int (-1), .int (-1), .int 0, .ref a_7, .ref a_9, .ref a_11, .ref a_13, .ref a_15, .null, .null, .null, .null, .int 0, .int 0, .null, .int 0, .int 0, .null, .null, .null, .null, .null])), (a_1, .inr (14, [.int 0, .ref tE, .int 0])), (a_3, .inr (14, [.int 0, .ref tE, .int 0])), (a_5, .inl (cA_6, 7, .inl (fun _ => 0))), (a_7, .inl (cA_8, 7, .inl (fun _ => 0))), (a_9, .inl (cA_10, 7, .inl (fun _ => 0))), (a_11, .inl (cA_12, 7, .inl (fun _ => 0))), (a_13, .inl (cA_14, 7, .inl (fun _ => 0))), (a_15, .inl (cA_16, 7, .inl (fun _ => 0)))] H := hP
  have hD : va_D A [(h0, .inr (12, [.int 0, .ref a_1, .ref a_3, .ref a_5, .int (-1), .int (-1), .int 0, .ref a_7, .ref a_9, .ref a_11, .ref a_13, .ref a_15, .null, .null, .null, .null, .int 0, .int 0, .null, .int 0, .int 0, .null, .null, .null, .null, .null])), (a_1, .inr (14, [.int 0, .ref tE, .int 0])), (a_3, .inr (14, [.int 0, .ref tE, .int 0])), (a_5, .inl (cA_6, 7, .inl (fun _ => 0))), (a_7, .inl (cA_8, 7, .inl (fun _ => 0))), (a_9, .inl (cA_10, 7, .inl (fun _ => 0))), (a_11, .inl (cA_12, 7, .inl (fun _ => 0))), (a_13, .inl (cA_14, 7, .inl (fun _ => 0))), (a_15, .inl (cA_16, 7, .inl (fun _ => 0)))] := hD
  refine lv_aload_n hx hb dX12_init_84 rfl (lv_at hl 0 rfl) ?_
  refine lv_bipush (v := 7) hx hb dX12_init_85 (by decide) ?_
  refine va_newa (atype := .int) (a0 := (7, .inl (fun _ => 0))) hx hb (hq _ q_81) rfl hK hP hD hS hA (fun _ => rfl) (by decide) (by decide) (Nat.le_of_ble_eq_true rfl) (Nat.le_of_ble_eq_true rfl) (Nat.le_of_ble_eq_true rfl) dX12_init_87 (fun a_17 cA_18 H hK hP hD hS => ?_)
  have hP : va_P (dC, dI) cls [(h0, .inr (12, [.int 0, .ref a_1, .ref a_3, .ref a_5, .int (-1), .int (-1), .int 0, .ref a_7, .ref a_9, .ref a_11, .ref a_13, .ref a_15, .null, .null, .null, .null, .int 0, .int 0, .null, .int 0, .int 0, .null, .null, .null, .null, .null])), (a_1, .inr (14, [.int 0, .ref tE, .int 0])), (a_3, .inr (14, [.int 0, .ref tE, .int 0])), (a_5, .inl (cA_6, 7, .inl (fun _ => 0))), (a_7, .inl (cA_8, 7, .inl (fun _ => 0))), (a_9, .inl (cA_10, 7, .inl (fun _ => 0))), (a_11, .inl (cA_12, 7, .inl (fun _ => 0))), (a_13, .inl (cA_14, 7, .inl (fun _ => 0))), (a_15, .inl (cA_16, 7, .inl (fun _ => 0))), (a_17, .inl (cA_18, 7, .inl (fun _ => 0)))] H := hP
  have hD : va_D A [(h0, .inr (12, [.int 0, .ref a_1, .ref a_3, .ref a_5, .int (-1), .int (-1), .int 0, .ref a_7, .ref a_9, .ref a_11, .ref a_13, .ref a_15, .null, .null, .null, .null, .int 0, .int 0, .null, .int 0, .int 0, .null, .null, .null, .null, .null])), (a_1, .inr (14, [.int 0, .ref tE, .int 0])), (a_3, .inr (14, [.int 0, .ref tE, .int 0])), (a_5, .inl (cA_6, 7, .inl (fun _ => 0))), (a_7, .inl (cA_8, 7, .inl (fun _ => 0))), (a_9, .inl (cA_10, 7, .inl (fun _ => 0))), (a_11, .inl (cA_12, 7, .inl (fun _ => 0))), (a_13, .inl (cA_14, 7, .inl (fun _ => 0))), (a_15, .inl (cA_16, 7, .inl (fun _ => 0))), (a_17, .inl (cA_18, 7, .inl (fun _ => 0)))] := hD
  have hK : va_K (dC, dI) cls [(cA_6, .int), (cA_8, .int), (cA_10, .int), (cA_12, .int), (cA_14, .int), (cA_16, .int), (cA_18, .int)] s := hK
  refine W.widen (k := 9) (n := 55) (Nat.le_of_ble_eq_true rfl) (Nat.le_of_ble_eq_true rfl) ?_
  refine va_putF (D := (dC, dI)) (ci := 12) (v := .ref a_17) (ty := (.array .int)) (C := RX12) (T := TX12) (N := 26) hx hb hq i_X12 tyX12 tyX12_ok nmX12 hown hK hP hD hS 0 rfl rfl 12 (by decide) (hq _ q_1316) (fun _ h9 => h9) rfl hin rfl (by decide +kernel) rfl rfl (Nat.le_of_ble_eq_true rfl) dX12_init_89 (fun H locs hP hD hS => ?_)
  have hP : va_P (dC, dI) cls [(h0, .inr (12, [.int 0, .ref a_1, .ref a_3, .ref a_5, .int (-1), .int (-1), .int 0, .ref a_7, .ref a_9, .ref a_11, .ref a_13, .ref a_15, .ref a_17, .null, .null, .null, .int 0, .int 0, .null, .int 0, .int 0, .null, .null, .null, .null, .null])), (a_1, .inr (14, [.int 0, .ref tE, .int 0])), (a_3, .inr (14, [.int 0, .ref tE, .int 0])), (a_5, .inl (cA_6, 7, .inl (fun _ => 0))), (a_7, .inl (cA_8, 7, .inl (fun _ => 0))), (a_9, .inl (cA_10, 7, .inl (fun _ => 0))), (a_11, .inl (cA_12, 7, .inl (fun _ => 0))), (a_13, .inl (cA_14, 7, .inl (fun _ => 0))), (a_15, .inl (cA_16, 7, .inl (fun _ => 0))), (a_17, .inl (cA_18, 7, .inl (fun _ => 0)))] H := hP
  have hD : va_D A [(h0, .inr (12, [.int 0, .ref a_1, .ref a_3, .ref a_5, .int (-1), .int (-1), .int 0, .ref a_7, .ref a_9, .ref a_11, .ref a_13, .ref a_15, .ref a_17, .null, .null, .null, .int 0, .int 0, .null, .int 0, .int 0, .null, .null, .null, .null, .null])), (a_1, .inr (14, [.int 0, .ref tE, .int 0])), (a_3, .inr (14, [.int 0, .ref tE, .int 0])), (a_5, .inl (cA_6, 7, .inl (fun _ => 0))), (a_7, .inl (cA_8, 7, .inl (fun _ => 0))), (a_9, .inl (cA_10, 7, .inl (fun _ => 0))), (a_11, .inl (cA_12, 7, .inl (fun _ => 0))), (a_13, .inl (cA_14, 7, .inl (fun _ => 0))), (a_15, .inl (cA_16, 7, .inl (fun _ => 0))), (a_17, .inl (cA_18, 7, .inl (fun _ => 0)))] := hD
  refine lv_aload_n hx hb dX12_init_92 rfl (lv_at hl 0 rfl) ?_
  refine lv_bipush (v := 7) hx hb dX12_init_93 (by decide) ?_
  refine va_newa (atype := .char) (a0 := (7, .inl (fun _ => 0))) hx hb (hq _ q_80) rfl hK hP hD hS hA (fun _ => rfl) (by decide) (by decide) (Nat.le_of_ble_eq_true rfl) (Nat.le_of_ble_eq_true rfl) (Nat.le_of_ble_eq_true rfl) dX12_init_95 (fun a_19 cA_20 H hK hP hD hS => ?_)
  have hP : va_P (dC, dI) cls [(h0, .inr (12, [.int 0, .ref a_1, .ref a_3, .ref a_5, .int (-1), .int (-1), .int 0, .ref a_7, .ref a_9, .ref a_11, .ref a_13, .ref a_15, .ref a_17, .null, .null, .null, .int 0, .int 0, .null, .int 0, .int 0, .null, .null, .null, .null, .null])), (a_1, .inr (14, [.int 0, .ref tE, .int 0])), (a_3, .inr (14, [.int 0, .ref tE, .int 0])), (a_5, .inl (cA_6, 7, .inl (fun _ => 0))), (a_7, .inl (cA_8, 7, .inl (fun _ => 0))), (a_9, .inl (cA_10, 7, .inl (fun _ => 0))), (a_11, .inl (cA_12, 7, .inl (fun _ => 0))), (a_13, .inl (cA_14, 7, .inl (fun _ => 0))), (a_15, .inl (cA_16, 7, .inl (fun _ => 0))), (a_17, .inl (cA_18, 7, .inl (fun _ => 0))), (a_19, .inl (cA_20, 7, .inl (fun _ => 0)))] H := hP
  have hD : va_D A [(h0, .inr (12, [.int 0, .ref a_1, .ref a_3, .ref a_5, .int (-1), .int (-1), .int 0, .ref a_7, .ref a_9, .ref a_11, .ref a_13, .ref a_15, .ref a_17, .null, .null, .null, .int 0, .int 0, .null, .int 0, .int 0, .null, .null, .null, .null, .null])), (a_1, .inr (14, [.int 0, .ref tE, .int 0])), (a_3, .inr (14, [.int 0, .ref tE, .int 0])), (a_5, .inl (cA_6, 7, .inl (fun _ => 0))), (a_7, .inl (cA_8, 7, .inl (fun _ => 0))), (a_9, .inl (cA_10, 7, .inl (fun _ => 0))), (a_11, .inl (cA_12, 7, .inl (fun _ => 0))), (a_13, .inl (cA_14, 7, .inl (fun _ => 0))), (a_15, .inl (cA_16, 7, .inl (fun _ => 0))), (a_17, .inl (cA_18, 7, .inl (fun _ => 0))), (a_19, .inl (cA_20, 7, .inl (fun _ => 0)))] := hD
  have hK : va_K (dC, dI) cls [(cA_6, .int), (cA_8, .int), (cA_10, .int), (cA_12, .int), (cA_14, .int), (cA_16, .int), (cA_18, .int), (cA_20, .char)] s := hK
  refine W.widen (k := 10) (n := 62) (Nat.le_of_ble_eq_true rfl) (Nat.le_of_ble_eq_true rfl) ?_
  refine va_putF (D := (dC, dI)) (ci := 12) (v := .ref a_19) (ty := (.array .char)) (C := RX12) (T := TX12) (N := 26) hx hb hq i_X12 tyX12 tyX12_ok nmX12 hown hK hP hD hS 0 rfl rfl 13 (by decide) (hq _ q_1317) (fun _ h9 => h9) rfl hin rfl (by decide +kernel) rfl rfl (Nat.le_of_ble_eq_true rfl) dX12_init_97 (fun H locs hP hD hS => ?_)
  have hP : va_P (dC, dI) cls [(h0, .inr (12, [.int 0, .ref a_1, .ref a_3, .ref a_5, .int (-1), .int (-1), .int 0, .ref a_7, .ref a_9, .ref a_11, .ref a_13, .ref a_15, .ref a_17, .ref a_19, .null, .null, .int 0, .int 0, .null, .int 0, .int 0, .null, .null, .null, .null, .null])), (a_1, .inr (14, [.int 0, .ref tE, .int 0])), (a_3, .inr (14, [.int 0, .ref tE, .int 0])), (a_5, .inl (cA_6, 7, .inl (fun _ => 0))), (a_7, .inl (cA_8, 7, .inl (fun _ => 0))), (a_9, .inl (cA_10, 7, .inl (fun _ => 0))), (a_11, .inl (cA_12, 7, .inl (fun _ => 0))), (a_13, .inl (cA_14, 7, .inl (fun _ => 0))), (a_15, .inl (cA_16, 7, .inl (fun _ => 0))), (a_17, .inl (cA_18, 7, .inl (fun _ => 0))), (a_19, .inl (cA_20, 7, .inl (fun _ => 0)))] H := hP
  have hD : va_D A [(h0, .inr (12, [.int 0, .ref a_1, .ref a_3, .ref a_5, .int (-1), .int (-1), .int 0, .ref a_7, .ref a_9, .ref a_11, .ref a_13, .ref a_15, .ref a_17, .ref a_19, .null, .null, .int 0, .int 0, .null, .int 0, .int 0, .null, .null, .null, .null, .null])), (a_1, .inr (14, [.int 0, .ref tE, .int 0])), (a_3, .inr (14, [.int 0, .ref tE, .int 0])), (a_5, .inl (cA_6, 7, .inl (fun _ => 0))), (a_7, .inl (cA_8, 7, .inl (fun _ => 0))), (a_9, .inl (cA_10, 7, .inl (fun _ => 0))), (a_11, .inl (cA_12, 7, .inl (fun _ => 0))), (a_13, .inl (cA_14, 7, .inl (fun _ => 0))), (a_15, .inl (cA_16, 7, .inl (fun _ => 0))), (a_17, .inl (cA_18, 7, .inl (fun _ => 0))), (a_19, .inl (cA_20, 7, .inl (fun _ => 0)))] := hD
  refine lv_aload_n hx hb dX12_init_100 rfl (lv_at hl 0 rfl) ?_
  refine lv_bipush (v := 7) hx hb dX12_init_101 (by decide) ?_
  refine va_newa (atype := .boolean) (a0 := (7, .inl (fun _ => 0))) hx hb (hq _ q_82) rfl hK hP hD hS hA (fun _ => rfl) (by decide) (by decide) (Nat.le_of_ble_eq_true rfl) (Nat.le_of_ble_eq_true rfl) (Nat.le_of_ble_eq_true rfl) dX12_init_103 (fun a_21 cA_22 H hK hP hD hS => ?_)
  have hP : va_P (dC, dI) cls [(h0, .inr (12, [.int 0, .ref a_1, .ref a_3, .ref a_5, .int (-1), .int (-1), .int 0, .ref a_7, .ref a_9, .ref a_11, .ref a_13, .ref a_15, .ref a_17, .ref a_19, .null, .null, .int 0, .int 0, .null, .int 0, .int 0, .null, .null, .null, .null, .null])), (a_1, .inr (14, [.int 0, .ref tE, .int 0])), (a_3, .inr (14, [.int 0, .ref tE, .int 0])), (a_5, .inl (cA_6, 7, .inl (fun _ => 0))), (a_7, .inl (cA_8, 7, .inl (fun _ => 0))), (a_9, .inl (cA_10, 7, .inl (fun _ => 0))), (a_11, .inl (cA_12, 7, .inl (fun _ => 0))), (a_13, .inl (cA_14, 7, .inl (fun _ => 0))), (a_15, .inl (cA_16, 7, .inl (fun _ => 0))), (a_17, .inl (cA_18, 7, .inl (fun _ => 0))), (a_19, .inl (cA_20, 7, .inl (fun _ => 0))), (a_21, .inl (cA_22, 7, .inl (fun _ => 0)))] H := hP
  have hD : va_D A [(h0, .inr (12, [.int 0, .ref a_1, .ref a_3, .ref a_5, .int (-1), .int (-1), .int 0, .ref a_7, .ref a_9, .ref a_11, .ref a_13, .ref a_15, .ref a_17, .ref a_19, .null, .null, .int 0, .int 0, .null, .int 0, .int 0, .null, .null, .null, .null, .null])), (a_1, .inr (14, [.int 0, .ref tE, .int 0])), (a_3, .inr (14, [.int 0, .ref tE, .int 0])), (a_5, .inl (cA_6, 7, .inl (fun _ => 0))), (a_7, .inl (cA_8, 7, .inl (fun _ => 0))), (a_9, .inl (cA_10, 7, .inl (fun _ => 0))), (a_11, .inl (cA_12, 7, .inl (fun _ => 0))), (a_13, .inl (cA_14, 7, .inl (fun _ => 0))), (a_15, .inl (cA_16, 7, .inl (fun _ => 0))), (a_17, .inl (cA_18, 7, .inl (fun _ => 0))), (a_19, .inl (cA_20, 7, .inl (fun _ => 0))), (a_21, .inl (cA_22, 7, .inl (fun _ => 0)))] := hD
  have hK : va_K (dC, dI) cls [(cA_6, .int), (cA_8, .int), (cA_10, .int), (cA_12, .int), (cA_14, .int), (cA_16, .int), (cA_18, .int), (cA_20, .char), (cA_22, .boolean)] s := hK
  refine W.widen (k := 11) (n := 69) (Nat.le_of_ble_eq_true rfl) (Nat.le_of_ble_eq_true rfl) ?_
  refine va_putF (D := (dC, dI)) (ci := 12) (v := .ref a_21) (ty := (.array .boolean)) (C := RX12) (T := TX12) (N := 26) hx hb hq i_X12 tyX12 tyX12_ok nmX12 hown hK hP hD hS 0 rfl rfl 14 (by decide) (hq _ q_1318) (fun _ h9 => h9) rfl hin rfl (by decide +kernel) rfl rfl (Nat.le_of_ble_eq_true rfl) dX12_init_105 (fun H locs hP hD hS => ?_)
  have hP : va_P (dC, dI) cls [(h0, .inr (12, [.int 0, .ref a_1, .ref a_3, .ref a_5, .int (-1), .int (-1), .int 0, .ref a_7, .ref a_9, .ref a_11, .ref a_13, .ref a_15, .ref a_17, .ref a_19, .ref a_21, .null, .int 0, .int 0, .null, .int 0, .int 0, .null, .null, .null, .null, .null])), (a_1, .inr (14, [.int 0, .ref tE, .int 0])), (a_3, .inr (14, [.int 0, .ref tE, .int 0])), (a_5, .inl (cA_6, 7, .inl (fun _ => 0))), (a_7, .inl (cA_8, 7, .inl (fun _ => 0))), (a_9, .inl (cA_10, 7, .inl (fun _ => 0))), (a_11, .inl (cA_12, 7, .inl (fun _ => 0))), (a_13, .inl (cA_14, 7, .inl (fun _ => 0))), (a_15, .inl (cA_16, 7, .inl (fun _ => 0))), (a_17, .inl (cA_18, 7, .inl (fun _ => 0))), (a_19, .inl (cA_20, 7, .inl (fun _ => 0))), (a_21, .inl (cA_22, 7, .inl (fun _ => 0)))] H := hP
  have hD : va_D A [(h0, .inr (12, [.int 0, .ref a_1, .ref a_3, .ref a_5, .int (-1), .int (-1), .int 0, .ref a_7, .ref a_9, .ref a_11, .ref a_13, .ref a_15, .ref a_17, .ref a_19, .ref a_21, .null, .int 0, .int 0, .null, .int 0, .int 0, .null, .null, .null, .null, .null])), (a_1, .inr (14, [.int 0, .ref tE, .int 0])), (a_3, .inr (14, [.int 0, .ref tE, .int 0])), (a_5, .inl (cA_6, 7, .inl (fun _ => 0))), (a_7, .inl (cA_8, 7, .inl (fun _ => 0))), (a_9, .inl (cA_10, 7, .inl (fun _ => 0))), (a_11, .inl (cA_12, 7, .inl (fun _ => 0))), (a_13, .inl (cA_14, 7, .inl (fun _ => 0))), (a_15, .inl (cA_16, 7, .inl (fun _ => 0))), (a_17, .inl (cA_18, 7, .inl (fun _ => 0))), (a_19, .inl (cA_20, 7, .inl (fun _ => 0))), (a_21, .inl (cA_22, 7, .inl (fun _ => 0)))] := hD
  refine lv_aload_n hx hb dX12_init_108 rfl (lv_at hl 0 rfl) ?_
  refine lv_bipush (v := 7) hx hb dX12_init_109 (by decide) ?_
  refine va_newa (atype := .boolean) (a0 := (7, .inl (fun _ => 0))) hx hb (hq _ q_82) rfl hK hP hD hS hA (fun _ => rfl) (by decide) (by decide) (Nat.le_of_ble_eq_true rfl) (Nat.le_of_ble_eq_true rfl) (Nat.le_of_ble_eq_true rfl) dX12_init_111 (fun a_23 cA_24 H hK hP hD hS => ?_)
  have hP : va_P (dC, dI) cls [(h0, .inr (12, [.int 0, .ref a_1, .ref a_3, .ref a_5, .int (-1), .int (-1), .int 0, .ref a_7, .ref a_9, .ref a_11, .ref a_13, .ref a_15, .ref a_17, .ref a_19, .ref a_21, .null, .int 0, .int 0, .null, .int 0, .int 0, .null, .null, .null, .null, .null])), (a_1, .inr (14, [.int 0, .ref tE, .int 0])), (a_3, .inr (14, [.int 0, .ref tE, .int 0])), (a_5, .inl (cA_6, 7, .inl (fun _ => 0))), (a_7, .inl (cA_8, 7, .inl (fun _ => 0))), (a_9, .inl (cA_10, 7, .inl (fun _ => 0))), (a_11, .inl (cA_12, 7, .inl (fun _ => 0))), (a_13, .inl (cA_14, 7, .inl (fun _ => 0))), (a_15, .inl (cA_16, 7, .inl (fun _ => 0))), (a_17, .inl (cA_18, 7, .inl (fun _ => 0))), (a_19, .inl (cA_20, 7, .inl (fun _ => 0))), (a_21, .inl (cA_22, 7, .inl (fun _ => 0))), (a_23, .inl (cA_24, 7, .inl (fun _ => 0)))] H := hP
  have hD : va_D A [(h0, .inr (12, [.int 0, .ref a_1, .ref a_3, .ref a_5, .int (-1), .int (-1), .int 0, .ref a_7, .ref a_9, .ref a_11, .ref a_13, .ref a_15, .ref a_17, .ref a_19, .ref a_21, .null, .int 0, .int 0, .null, .int 0, .int 0, .null, .null, .null, .null, .null])), (a_1, .inr (14, [.int 0, .ref tE, .int 0])), (a_3, .inr (14, [.int 0, .ref tE, .int 0])), (a_5, .inl (cA_6, 7, .inl (fun _ => 0))), (a_7, .inl (cA_8, 7, .inl (fun _ => 0))), (a_9, .inl (cA_10, 7, .inl (fun _ => 0))), (a_11, .inl (cA_12, 7, .inl (fun _ => 0))), (a_13, .inl (cA_14, 7, .inl (fun _ => 0))), (a_15, .inl (cA_16, 7, .inl (fun _ => 0))), (a_17, .inl (cA_18, 7, .inl (fun _ => 0))), (a_19, .inl (cA_20, 7, .inl (fun _ => 0))), (a_21, .inl (cA_22, 7, .inl (fun _ => 0))), (a_23, .inl (cA_24, 7, .inl (fun _ => 0)))] := hD
  have hK : va_K (dC, dI) cls [(cA_6, .int), (cA_8, .int), (cA_10, .int), (cA_12, .int), (cA_14, .int), (cA_16, .int), (cA_18, .int), (cA_20, .char), (cA_22, .boolean), (cA_24, .boolean)] s := hK
  refine W.widen (k := 12) (n := 76) (Nat.le_of_ble_eq_true rfl) (Nat.le_of_ble_eq_true rfl) ?_
  refine va_putF (D := (dC, dI)) (ci := 12) (v := .ref a_23) (ty := (.array .boolean)) (C := RX12) (T := TX12) (N := 26) hx hb hq i_X12 tyX12 tyX12_ok nmX12 hown hK hP hD hS 0 rfl rfl 15 (by decide) (hq _ q_1319) (fun _ h9 => h9) rfl hin rfl (by decide +kernel) rfl rfl (Nat.le_of_ble_eq_true rfl) dX12_init_113 (fun H locs hP hD hS => ?_)
  have hP : va_P (dC, dI) cls [(h0, .inr (12, [.int 0, .ref a_1, .ref a_3, .ref a_5, .int (-1), .int (-1), .int 0, .ref a_7, .ref a_9, .ref a_11, .ref a_13, .ref a_15, .ref a_17, .ref a_19, .ref a_21, .ref a_23, .int 0, .int 0, .null, .int 0, .int 0, .null, .null, .null, .null, .null])), (a_1, .inr (14, [.int 0, .ref tE, .int 0])), (a_3, .inr (14, [.int 0, .ref tE, .int 0])), (a_5, .inl (cA_6, 7, .inl (fun _ => 0))), (a_7, .inl (cA_8, 7, .inl (fun _ => 0))), (a_9, .inl (cA_10, 7, .inl (fun _ => 0))), (a_11, .inl (cA_12, 7, .inl (fun _ => 0))), (a_13, .inl (cA_14, 7, .inl (fun _ => 0))), (a_15, .inl (cA_16, 7, .inl (fun _ => 0))), (a_17, .inl (cA_18, 7, .inl (fun _ => 0))), (a_19, .inl (cA_20, 7, .inl (fun _ => 0))), (a_21, .inl (cA_22, 7, .inl (fun _ => 0))), (a_23, .inl (cA_24, 7, .inl (fun _ => 0)))] H := hP
  have hD : va_D A [(h0, .inr (12, [.int 0, .ref a_1, .ref a_3, .ref a_5, .int (-1), .int (-1), .int 0, .ref a_7, .ref a_9, .ref a_11, .ref a_13, .ref a_15, .ref a_17, .ref a_19, .ref a_21, .ref a_23, .int 0, .int 0, .null, .int 0, .int 0, .null, .null, .null, .null, .null])), (a_1, .inr (14, [.int 0, .ref tE, .int 0])), (a_3, .inr (14, [.int 0, .ref tE, .int 0])), (a_5, .inl (cA_6, 7, .inl (fun _ => 0))), (a_7, .inl (cA_8, 7, .inl (fun _ => 0))), (a_9, .inl (cA_10, 7, .inl (fun _ => 0))), (a_11, .inl (cA_12, 7, .inl (fun _ => 0))), (a_13, .inl (cA_14, 7, .inl (fun _ => 0))), (a_15, .inl (cA_16, 7, .inl (fun _ => 0))), (a_17, .inl (cA_18, 7, .inl (fun _ => 0))), (a_19, .inl (cA_20, 7, .inl (fun _ => 0))), (a_21, .inl (cA_22, 7, .inl (fun _ => 0))), (a_23, .inl (cA_24, 7, .inl (fun _ => 0)))] := hD
  refine lv_aload_n hx hb dX12_init_116 rfl (lv_at hl 0 rfl) ?_
  refine lv_bipush (v := 45) hx hb dX12_init_117 (by decide) ?_
  refine va_put (D := (dC, dI)) (ci := 12) (v := .int 45) (ty := .char) (C := RX12) (T := TX12) (N := 26) hx hb hq i_X12 tyX12 tyX12_ok nmX12 hown hK hP hD hS 0 rfl rfl 20 (by decide) (hq _ q_1324) (fun _ h9 => h9) rfl (by decide +kernel) (by decide) (by decide +kernel) (Nat.le_of_ble_eq_true rfl) dX12_init_119 (fun H locs hP hD hS => ?_)
  have hP : va_P (dC, dI) cls [(h0, .inr (12, [.int 0, .ref a_1, .ref a_3, .ref a_5, .int (-1), .int (-1), .int 0, .ref a_7, .ref a_9, .ref a_11, .ref a_13, .ref a_15, .ref a_17, .ref a_19, .ref a_21, .ref a_23, .int 0, .int 0, .null, .int 0, .int 45, .null, .null, .null, .null, .null])), (a_1, .inr (14, [.int 0, .ref tE, .int 0])), (a_3, .inr (14, [.int 0, .ref tE, .int 0])), (a_5, .inl (cA_6, 7, .inl (fun _ => 0))), (a_7, .inl (cA_8, 7, .inl (fun _ => 0))), (a_9, .inl (cA_10, 7, .inl (fun _ => 0))), (a_11, .inl (cA_12, 7, .inl (fun _ => 0))), (a_13, .inl (cA_14, 7, .inl (fun _ => 0))), (a_15, .inl (cA_16, 7, .inl (fun _ => 0))), (a_17, .inl (cA_18, 7, .inl (fun _ => 0))), (a_19, .inl (cA_20, 7, .inl (fun _ => 0))), (a_21, .inl (cA_22, 7, .inl (fun _ => 0))), (a_23, .inl (cA_24, 7, .inl (fun _ => 0)))] H := hP
  have hD : va_D A [(h0, .inr (12, [.int 0, .ref a_1, .ref a_3, .ref a_5, .int (-1), .int (-1), .int 0, .ref a_7, .ref a_9, .ref a_11, .ref a_13, .ref a_15, .ref a_17, .ref a_19, .ref a_21, .ref a_23, .int 0, .int 0, .null, .int 0, .int 45, .null, .null, .null, .null, .null])), (a_1, .inr (14, [.int 0, .ref tE, .int 0])), (a_3, .inr (14, [.int 0, .ref tE, .int 0])), (a_5, .inl (cA_6, 7, .inl (fun _ => 0))), (a_7, .inl (cA_8, 7, .inl (fun _ => 0))), (a_9, .inl (cA_10, 7, .inl (fun _ => 0))), (a_11, .inl (cA_12, 7, .inl (fun _ => 0))), (a_13, .inl (cA_14, 7, .inl (fun _ => 0))), (a_15, .inl (cA_16, 7, .inl (fun _ => 0))), (a_17, .inl (cA_18, 7, .inl (fun _ => 0))), (a_19, .inl (cA_20, 7, .inl (fun _ => 0))), (a_21, .inl (cA_22, 7, .inl (fun _ => 0))), (a_23, .inl (cA_24, 7, .inl (fun _ => 0)))] := hD
  refine lv_aload_n hx hb dX12_init_122 rfl (lv_at hl 0 rfl) ?_
  refine va_new (ci := 14) (fs := [.int 0, .null, .int 0]) (C := RJx4a65c) (T := TJx4a65c) (N := 3) hx hb hq i_Jx4a65c tyJx4a65c tyJx4a65c_ok hown (hq _ q_1271) (hq _ q_1272) (hq _ q_15) hK hP hD hS hA rfl (fun j hj => by rcases (show j = 0 ∨ j = 1 ∨ j = 2 by omega) with rfl | rfl | rfl <;> rfl) (Nat.le_of_ble_eq_true rfl) (Nat.le_of_ble_eq_true rfl) dX12_init_123 (fun a_25 H hP hD hS => ?_)
  have hP : va_P (dC, dI) cls [(h0, .inr (12, [.int 0, .ref a_1, .ref a_3, .ref a_5, .int (-1), .int (-1), .int 0, .ref a_7, .ref a_9, .ref a_11, .ref a_13, .ref a_15, .ref a_17, .ref a_19, .ref a_21, .ref a_23, .int 0, .int 0, .null, .int 0, .int 45, .null, .null, .null, .null, .null])), (a_1, .inr (14, [.int 0, .ref tE, .int 0])), (a_3, .inr (14, [.int 0, .ref tE, .int 0])), (a_5, .inl (cA_6, 7, .inl (fun _ => 0))), (a_7, .inl (cA_8, 7, .inl (fun _ => 0))), (a_9, .inl (cA_10, 7, .inl (fun _ => 0))), (a_11, .inl (cA_12, 7, .inl (fun _ => 0))), (a_13, .inl (cA_14, 7, .inl (fun _ => 0))), (a_15, .inl (cA_16, 7, .inl (fun _ => 0))), (a_17, .inl (cA_18, 7, .inl (fun _ => 0))), (a_19, .inl (cA_20, 7, .inl (fun _ => 0))), (a_21, .inl (cA_22, 7, .inl (fun _ => 0))), (a_23, .inl (cA_24, 7, .inl (fun _ => 0))), (a_25, .inr (14, [.int 0, .null, .int 0]))] H := hP
  have hD : va_D A [(h0, .inr (12, [.int 0, .ref a_1, .ref a_3, .ref a_5, .int (-1), .int (-1), .int 0, .ref a_7, .ref a_9, .ref a_11, .ref a_13, .ref a_15, .ref a_17, .ref a_19, .ref a_21, .ref a_23, .int 0, .int 0, .null, .int 0, .int 45, .null, .null, .null, .null, .null])), (a_1, .inr (14, [.int 0, .ref tE, .int 0])), (a_3, .inr (14, [.int 0, .ref tE, .int 0])), (a_5, .inl (cA_6, 7, .inl (fun _ => 0))), (a_7, .inl (cA_8, 7, .inl (fun _ => 0))), (a_9, .inl (cA_10, 7, .inl (fun _ => 0))), (a_11, .inl (cA_12, 7, .inl (fun _ => 0))), (a_13, .inl (cA_14, 7, .inl (fun _ => 0))), (a_15, .inl (cA_16, 7, .inl (fun _ => 0))), (a_17, .inl (cA_18, 7, .inl (fun _ => 0))), (a_19, .inl (cA_20, 7, .inl (fun _ => 0))), (a_21, .inl (cA_22, 7, .inl (fun _ => 0))), (a_23, .inl (cA_24, 7, .inl (fun _ => 0))), (a_25, .inr (14, [.int 0, .null, .int 0]))] := hD
  refine W.widen (k := 13) (n := 79) (Nat.le_of_ble_eq_true rfl) (Nat.le_of_ble_eq_true rfl) ?_
  refine lv_dup hx hb dX12_init_126 rfl ?_
  have hPc := hP.sub (ws' := [(a_25, .inr (14, [.int 0, .null, .int 0]))]) [13] rfl
  have hKc := hK.sub (tys' := []) [] rfl
  have hDc := hD.sub (ws' := [(a_25, .inr (14, [.int 0, .null, .int 0]))]) [13] (by decide) rfl
  have hFc := va_free (wc := [(a_25, .inr (14, [.int 0, .null, .int 0]))]) hD hS hA [13] rfl
  refine va_callv (va_runI (As := []) (rest := [.ref a_25, .ref h0]) ⟨hx, hb, hml, hown, hq⟩ (c_AL_init l hst tE adK adV dC dI a_25 H.size) (tcI 0 hq q_1275 q_15 q_1273 q_1274 rfl rfl rfl (by decide +kernel) ⟨Nat.le_of_ble_eq_true rfl, Nat.le_of_ble_eq_true rfl⟩) (pre.S (pre.of hPc hDc hKc ham hS hFc)) rfl rfl hl.1 rfl (lv_room (Nat.le_of_ble_eq_true rfl)) dX12_init_127 ⟨Nat.le_of_ble_eq_true rfl, Nat.le_of_ble_eq_true rfl⟩) hS (fun q _ h => hFc q h) hFc (fun u t H1 locs ht hvm hw hB hz1 hk1 hS => ?_)
  obtain ⟨hP1, hK1, hD1⟩ := hB
  rw [ht] at hP1
  have hK1 := va_K.moved hvm.symm hK1
  obtain ⟨hP, hD⟩ := va_join (wr := [(h0, .inr (12, [.int 0, .ref a_1, .ref a_3, .ref a_5, .int (-1), .int (-1), .int 0, .ref a_7, .ref a_9, .ref a_11, .ref a_13, .ref a_15, .ref a_17, .ref a_19, .ref a_21, .ref a_23, .int 0, .int 0, .null, .int 0, .int 45, .null, .null, .null, .null, .null])), (a_1, .inr (14, [.int 0, .ref tE, .int 0])), (a_3, .inr (14, [.int 0, .ref tE, .int 0])), (a_5, .inl (cA_6, 7, .inl (fun _ => 0))), (a_7, .inl (cA_8, 7, .inl (fun _ => 0))), (a_9, .inl (cA_10, 7, .inl (fun _ => 0))), (a_11, .inl (cA_12, 7, .inl (fun _ => 0))), (a_13, .inl (cA_14, 7, .inl (fun _ => 0))), (a_15, .inl (cA_16, 7, .inl (fun _ => 0))), (a_17, .inl (cA_18, 7, .inl (fun _ => 0))), (a_19, .inl (cA_20, 7, .inl (fun _ => 0))), (a_21, .inl (cA_22, 7, .inl (fun _ => 0))), (a_23, .inl (cA_24, 7, .inl (fun _ => 0)))]) (w1 := [(a_25, .inr (14, [.int 0, .ref tE, .int 0]))]) (wc := [(a_25, .inr (14, [.int 0, .null, .int 0]))]) hP hD [13] [0, 1, 2, 3, 4, 5, 6, 7, 8, 9, 10, 11, 12] rfl rfl (by decide) (by decide) hk1 hFc hP1 hD1
  have hK := (hK.sub (tys' := [(cA_6, .int), (cA_8, .int), (cA_10, .int), (cA_12, .int), (cA_14, .int), (cA_16, .int), (cA_18, .int), (cA_20, .char), (cA_22, .boolean), (cA_24, .boolean)]) [0, 1, 2, 3, 4, 5, 6, 7, 8, 9] rfl).app hK1
  generalize H1 = H at hP hS ⊢
  have hP : va_P (dC, dI) cls [(h0, .inr (12, [.int 0, .ref a_1, .ref a_3, .ref a_5, .int (-1), .int (-1), .int 0, .ref a_7, .ref a_9, .ref a_11, .ref a_13, .ref a_15, .ref a_17, .ref a_19, .ref a_21, .ref a_23, .int 0, .int 0, .null, .int 0, .int 45, .null, .null, .null, .null, .null])), (a_1, .inr (14, [.int 0, .ref tE, .int 0])), (a_3, .inr (14, [.int 0, .ref tE, .int 0])), (a_5, .inl (cA_6, 7, .inl (fun _ => 0))), (a_7, .inl (cA_8, 7, .inl (fun _ => 0))), (a_9, .inl (cA_10, 7, .inl (fun _ => 0))), (a_11, .inl (cA_12, 7, .inl (fun _ => 0))), (a_13, .inl (cA_14, 7, .inl (fun _ => 0))), (a_15, .inl (cA_16, 7, .inl (fun _ => 0))), (a_17, .inl (cA_18, 7, .inl (fun _ => 0))), (a_19, .inl (cA_20, 7, .inl (fun _ => 0))), (a_21, .inl (cA_22, 7, .inl (fun _ => 0))), (a_23, .inl (cA_24, 7, .inl (fun _ => 0))), (a_25, .inr (14, [.int 0, .ref tE, .int 0]))] H := hP
  have hD : va_D A [(h0, .inr (12, [.int 0, .ref a_1, .ref a_3, .ref a_5, .int (-1), .int (-1), .int 0, .ref a_7, .ref a_9, .ref a_11, .ref a_13, .ref a_15, .ref a_17, .ref a_19, .ref a_21, .ref a_23, .int 0, .int 0, .null, .int 0, .int 45, .null, .null, .null, .null, .null])), (a_1, .inr (14, [.int 0, .ref tE, .int 0])), (a_3, .inr (14, [.int 0, .ref tE, .int 0])), (a_5, .inl (cA_6, 7, .inl (fun _ => 0))), (a_7, .inl (cA_8, 7, .inl (fun _ => 0))), (a_9, .inl (cA_10, 7, .inl (fun _ => 0))), (a_11, .inl (cA_12, 7, .inl (fun _ => 0))), (a_13, .inl (cA_14, 7, .inl (fun _ => 0))), (a_15, .inl (cA_16, 7, .inl (fun _ => 0))), (a_17, .inl (cA_18, 7, .inl (fun _ => 0))), (a_19, .inl (cA_20, 7, .inl (fun _ => 0))), (a_21, .inl (cA_22, 7, .inl (fun _ => 0))), (a_23, .inl (cA_24, 7, .inl (fun _ => 0))), (a_25, .inr (14, [.int 0, .ref tE, .int 0]))] := hD
  have hK : va_K (dC, dI) cls [(cA_6, .int), (cA_8, .int), (cA_10, .int), (cA_12, .int), (cA_14, .int), (cA_16, .int), (cA_18, .int), (cA_20, .char), (cA_22, .boolean), (cA_24, .boolean)] s := hK
  refine W.widen (k := 13) (n := 79) (Nat.le_of_ble_eq_true rfl) (Nat.le_of_ble_eq_true rfl) ?_
  refine va_putF (D := (dC, dI)) (ci := 12) (v := .ref a_25) (ty := (.object "java/util/List")) (C := RX12) (T := TX12) (N := 26) hx hb hq i_X12 tyX12 tyX12_ok nmX12 hown hK hP hD hS 0 rfl rfl 21 (by decide) (hq _ q_1325) (fun _ h9 => h9) rfl hin rfl (by decide +kernel) rfl rfl (Nat.le_of_ble_eq_true rfl) dX12_init_130 (fun H locs hP hD hS => ?_)
  have hP : va_P (dC, dI) cls [(h0, .inr (12, [.int 0, .ref a_1, .ref a_3, .ref a_5, .int (-1), .int (-1), .int 0, .ref a_7, .ref a_9, .ref a_11, .ref a_13, .ref a_15, .ref a_17, .ref a_19, .ref a_21, .ref a_23, .int 0, .int 0, .null, .int 0, .int 45, .ref a_25, .null, .null, .null, .null])), (a_1, .inr (14, [.int 0, .ref tE, .int 0])), (a_3, .inr (14, [.int 0, .ref tE, .int 0])), (a_5, .inl (cA_6, 7, .inl (fun _ => 0))), (a_7, .inl (cA_8, 7, .inl (fun _ => 0))), (a_9, .inl (cA_10, 7, .inl (fun _ => 0))), (a_11, .inl (cA_12, 7, .inl (fun _ => 0))), (a_13, .inl (cA_14, 7, .inl (fun _ => 0))), (a_15, .inl (cA_16, 7, .inl (fun _ => 0))), (a_17, .inl (cA_18, 7, .inl (fun _ => 0))), (a_19, .inl (cA_20, 7, .inl (fun _ => 0))), (a_21, .inl (cA_22, 7, .inl (fun _ => 0))), (a_23, .inl (cA_24, 7, .inl (fun _ => 0))), (a_25, .inr (14, [.int 0, .ref tE, .int 0]))] H := hP
  have hD : va_D A [(h0, .inr (12, [.int 0, .ref a_1, .ref a_3, .ref a_5, .int (-1), .int (-1), .int 0, .ref a_7, .ref a_9, .ref a_11, .ref a_13, .ref a_15, .ref a_17, .ref a_19, .ref a_21, .ref a_23, .int 0, .int 0, .null, .int 0, .int 45, .ref a_25, .null, .null, .null, .null])), (a_1, .inr (14, [.int 0, .ref tE, .int 0])), (a_3, .inr (14, [.int 0, .ref tE, .int 0])), (a_5, .inl (cA_6, 7, .inl (fun _ => 0))), (a_7, .inl (cA_8, 7, .inl (fun _ => 0))), (a_9, .inl (cA_10, 7, .inl (fun _ => 0))), (a_11, .inl (cA_12, 7, .inl (fun _ => 0))), (a_13, .inl (cA_14, 7, .inl (fun _ => 0))), (a_15, .inl (cA_16, 7, .inl (fun _ => 0))), (a_17, .inl (cA_18, 7, .inl (fun _ => 0))), (a_19, .inl (cA_20, 7, .inl (fun _ => 0))), (a_21, .inl (cA_22, 7, .inl (fun _ => 0))), (a_23, .inl (cA_24, 7, .inl (fun _ => 0))), (a_25, .inr (14, [.int 0, .ref tE, .int 0]))] := hD
  refine lv_aload_n hx hb dX12_init_133 rfl (lv_at hl 0 rfl) ?_
  refine va_new (ci := 14) (fs := [.int 0, .null, .int 0]) (C := RJx4a65c) (T := TJx4a65c) (N := 3) hx hb hq i_Jx4a65c tyJx4a65c tyJx4a65c_ok hown (hq _ q_1271) (hq _ q_1272) (hq _ q_15) hK hP hD hS hA rfl (fun j hj => by rcases (show j = 0 ∨ j = 1 ∨ j = 2 by omega) with rfl | rfl | rfl <;> rfl) (Nat.le_of_ble_eq_true rfl) (Nat.le_of_ble_eq_true rfl) dX12_init_134 (fun a_27 H hP hD hS => ?_)
  have hP : va_P (dC, dI) cls [(h0, .inr (12, [.int 0, .ref a_1, .ref a_3, .ref a_5, .int (-1), .int (-1), .int 0, .ref a_7, .ref a_9, .ref a_11, .ref a_13, .ref a_15, .ref a_17, .ref a_19, .ref a_21, .ref a_23, .int 0, .int 0, .null, .int 0, .int 45, .ref a_25, .null, .null, .null, .null])), (a_1, .inr (14, [.int 0, .ref tE, .int 0])), (a_3, .inr (14, [.int 0, .ref tE, .int 0])), (a_5, .inl (cA_6, 7, .inl (fun _ => 0))), (a_7, .inl (cA_8, 7, .inl (fun _ => 0))), (a_9, .inl (cA_10, 7, .inl (fun _ => 0))), (a_11, .inl (cA_12, 7, .inl (fun _ => 0))), (a_13, .inl (cA_14, 7, .inl (fun _ => 0))), (a_15, .inl (cA_16, 7, .inl (fun _ => 0))), (a_17, .inl (cA_18, 7, .inl (fun _ => 0))), (a_19, .inl (cA_20, 7, .inl (fun _ => 0))), (a_21, .inl (cA_22, 7, .inl (fun _ => 0))), (a_23, .inl (cA_24, 7, .inl (fun _ => 0))), (a_25, .inr (14, [.int 0, .ref tE, .int 0])), (a_27, .inr (14, [.int 0, .null, .int 0]))] H := hP
  have hD : va_D A [(h0, .inr (12, [.int 0, .ref a_1, .ref a_3, .ref a_5, .int (-1), .int (-1), .int 0, .ref a_7, .ref a_9, .ref a_11, .ref a_13, .ref a_15, .ref a_17, .ref a_19, .ref a_21, .ref a_23, .int 0, .int 0, .null, .int 0, .int 45, .ref a_25, .null, .null, .null, .null])), (a_1, .inr (14, [.int 0, .ref tE, .int 0])), (a_3, .inr (14, [.int 0, .ref tE, .int 0])), (a_5, .inl (cA_6, 7, .inl (fun _ => 0))), (a_7, .inl (cA_8, 7, .inl (fun _ => 0))), (a_9, .inl (cA_10, 7, .inl (fun _ => 0))), (a_11, .inl (cA_12, 7, .inl (fun _ => 0))), (a_13, .inl (cA_14, 7, .inl (fun _ => 0))), (a_15, .inl (cA_16, 7, .inl (fun _ => 0))), (a_17, .inl (cA_18, 7, .inl (fun _ => 0))), (a_19, .inl (cA_20, 7, .inl (fun _ => 0))), (a_21, .inl (cA_22, 7, .inl (fun _ => 0))), (a_23, .inl (cA_24, 7, .inl (fun _ => 0))), (a_25, .inr (14, [.int 0, .ref tE, .int 0])), (a_27, .inr (14, [.int 0, .null, .int 0]))] := hD
  refine W.widen (k := 14) (n := 82) (Nat.le_of_ble_eq_true rfl) (Nat.le_of_ble_eq_true rfl) ?_
  refine lv_dup hx hb dX12_init_137 rfl ?_
  have hPc := hP.sub (ws' := [(a_27, .inr (14, [.int 0, .null, .int 0]))]) [14] rfl
  have hKc := hK.sub (tys' := []) [] rfl
  have hDc := hD.sub (ws' := [(a_27, .inr (14, [.int 0, .null, .int 0]))]) [14] (by decide) rfl
  have hFc := va_free (wc := [(a_27, .inr (14, [.int 0, .null, .int 0]))]) hD hS hA [14] rfl
  refine va_callv (va_runI (As := []) (rest := [.ref a_27, .ref h0]) ⟨hx, hb, hml, hown, hq⟩ (c_AL_init l hst tE adK adV dC dI a_27 H.size) (tcI 0 hq q_1275 q_15 q_1273 q_1274 rfl rfl rfl (by decide +kernel) ⟨Nat.le_of_ble_eq_true rfl, Nat.le_of_ble_eq_true rfl⟩) (pre.S (pre.of hPc hDc hKc ham hS hFc)) rfl rfl hl.1 rfl (lv_room (Nat.le_of_ble_eq_true rfl)) dX12_init_138 ⟨Nat.le_of_ble_eq_true rfl, Nat.le_of_ble_eq_true rfl⟩) hS (fun q _ h => hFc q h) hFc (fun u t H1 locs ht hvm hw hB hz1 hk1 hS => ?_)
  obtain ⟨hP1, hK1, hD1⟩ := hB
  rw [ht] at hP1
  have hK1 := va_K.moved hvm.symm hK1
  obtain ⟨hP, hD⟩ := va_join (wr := [(h0, .inr (12, [.int 0, .ref a_1, .ref a_3, .ref a_5, .int (-1), .int (-1), .int 0, .ref a_7, .ref a_9, .ref a_11, .ref a_13, .ref a_15, .ref a_17, .ref a_19, .ref a_21, .ref a_23, .int 0, .int 0, .null, .int 0, .int 45, .ref a_25, .null, .null, .null, .null])), (a_1, .inr (14, [.int 0, .ref tE, .int 0])), (a_3, .inr (14, [.int 0, .ref tE, .int 0])), (a_5, .inl (cA_6, 7, .inl (fun _ => 0))), (a_7, .inl (cA_8, 7, .inl (fun _ => 0))), (a_9, .inl (cA_10, 7, .inl (fun _ => 0))), (a_11, .inl (cA_12, 7, .inl (fun _ => 0))), (a_13, .inl (cA_14, 7, .inl (fun _ => 0))), (a_15, .inl (cA_16, 7, .inl (fun _ => 0))), (a_17, .inl (cA_18, 7, .inl (fun _ => 0))), (a_19, .inl (cA_20, 7, .inl (fun _ => 0))), (a_21, .inl (cA_22, 7, .inl (fun _ => 0))), (a_23, .inl (cA_24, 7, .inl (fun _ => 0))), (a_25, .inr (14, [.int 0, .ref tE, .int 0]))]) (w1 := [(a_27, .inr (14, [.int 0, .ref tE, .int 0]))]) (wc := [(a_27, .inr (14, [.int 0, .null, .int 0]))]) hP hD [14] [0, 1, 2, 3, 4, 5, 6, 7, 8, 9, 10, 11, 12, 13] rfl rfl (by decide) (by decide) hk1 hFc hP1 hD1
  have hK := (hK.sub (tys' := [(cA_6, .int), (cA_8, .int), (cA_10, .int), (cA_12, .int), (cA_14, .int), (cA_16, .int), (cA_18, .int), (cA_20, .char), (cA_22, .boolean), (cA_24, .boolean)]) [0, 1, 2, 3, 4, 5, 6, 7, 8, 9] rfl).app hK1
  generalize H1 = H at hP hS ⊢
  have hP : va_P (dC, dI) cls [(h0, .inr (12, [.int 0, .ref a_1, .ref a_3, .ref a_5, .int (-1), .int (-1), .int 0, .ref a_7, .ref a_9, .ref a_11, .ref a_13, .ref a_15, .ref a_17, .ref a_19, .ref a_21, .ref a_23, .int 0, .int 0, .null, .int 0, .int 45, .ref a_25, .null, .null, .null, .null])), (a_1, .inr (14, [.int 0, .ref tE, .int 0])), (a_3, .inr (14, [.int 0, .ref tE, .int 0])), (a_5, .inl (cA_6, 7, .inl (fun _ => 0))), (a_7, .inl (cA_8, 7, .inl (fun _ => 0))), (a_9, .inl (cA_10, 7, .inl (fun _ => 0))), (a_11, .inl (cA_12, 7, .inl (fun _ => 0))), (a_13, .inl (cA_14, 7, .inl (fun _ => 0))), (a_15, .inl (cA_16, 7, .inl (fun _ => 0))), (a_17, .inl (cA_18, 7, .inl (fun _ => 0))), (a_19, .inl (cA_20, 7, .inl (fun _ => 0))), (a_21, .inl (cA_22, 7, .inl (fun _ => 0))), (a_23, .inl (cA_24, 7, .inl (fun _ => 0))), (a_25, .inr (14, [.int 0, .ref tE, .int 0])), (a_27, .inr (14, [.int 0, .ref tE, .int 0]))] H := hP
  have hD : va_D A [(h0, .inr (12, [.int 0, .ref a_1, .ref a_3, .ref a_5, .int (-1), .int (-1), .int 0, .ref a_7, .ref a_9, .ref a_11, .ref a_13, .ref a_15, .ref a_17, .ref a_19, .ref a_21, .ref a_23, .int 0, .int 0, .null, .int 0, .int 45, .ref a_25, .null, .null, .null, .null])), (a_1, .inr (14, [.int 0, .ref tE, .int 0])), (a_3, .inr (14, [.int 0, .ref tE, .int 0])), (a_5, .inl (cA_6, 7, .inl (fun _ => 0))), (a_7, .inl (cA_8, 7, .inl (fun _ => 0))), (a_9, .inl (cA_10, 7, .inl (fun _ => 0))), (a_11, .inl (cA_12, 7, .inl (fun _ => 0))), (a_13, .inl (cA_14, 7, .inl (fun _ => 0))), (a_15, .inl (cA_16, 7, .inl (fun _ => 0))), (a_17, .inl (cA_18, 7, .inl (fun _ => 0))), (a_19, .inl (cA_20, 7, .inl (fun _ => 0))), (a_21, .inl (cA_22, 7, .inl (fun _ => 0))), (a_23, .inl (cA_24, 7, .inl (fun _ => 0))), (a_25, .inr (14, [.int 0, .ref tE, .int 0])), (a_27, .inr (14, [.int 0, .ref tE, .int 0]))] := hD
  have hK : va_K (dC, dI) cls [(cA_6, .int), (cA_8, .int), (cA_10, .int), (cA_12, .int), (cA_14, .int), (cA_16, .int), (cA_18, .int), (cA_20, .char), (cA_22, .boolean), (cA_24, .boolean)] s := hK
  refine W.widen (k := 14) (n := 82) (Nat.le_of_ble_eq_true rfl) (Nat.le_of_ble_eq_true rfl) ?_
  refine va_putF (D := (dC, dI)) (ci := 12) (v := .ref a_27) (ty := (.object "java/util/List")) (C := RX12) (T := TX12) (N := 26) hx hb hq i_X12 tyX12 tyX12_ok nmX12 hown hK hP hD hS 0 rfl rfl 22 (by decide) (hq _ q_1326) (fun _ h9 => h9) rfl hin rfl (by decide +kernel) rfl rfl (Nat.le_of_ble_eq_true rfl) dX12_init_141 (fun H locs hP hD hS => ?_)
  have hP : va_P (dC, dI) cls [(h0, .inr (12, [.int 0, .ref a_1, .ref a_3, .ref a_5, .int (-1), .int (-1), .int 0, .ref a_7, .ref a_9, .ref a_11, .ref a_13, .ref a_15, .ref a_17, .ref a_19, .ref a_21, .ref a_23, .int 0, .int 0, .null, .int 0, .int 45, .ref a_25, .ref a_27, .null, .null, .null])), (a_1, .inr (14, [.int 0, .ref tE, .int 0])), (a_3, .inr (14, [.int 0, .ref tE, .int 0])), (a_5, .inl (cA_6, 7, .inl (fun _ => 0))), (a_7, .inl (cA_8, 7, .inl (fun _ => 0))), (a_9, .inl (cA_10, 7, .inl (fun _ => 0))), (a_11, .inl (cA_12, 7, .inl (fun _ => 0))), (a_13, .inl (cA_14, 7, .inl (fun _ => 0))), (a_15, .inl (cA_16, 7, .inl (fun _ => 0))), (a_17, .inl (cA_18, 7, .inl (fun _ => 0))), (a_19, .inl (cA_20, 7, .inl (fun _ => 0))), (a_21, .inl (cA_22, 7, .inl (fun _ => 0))), (a_23, .inl (cA_24, 7, .inl (fun _ => 0))), (a_25, .inr (14, [.int 0, .ref tE, .int 0])), (a_27, .inr (14, [.int 0, .ref tE, .int 0]))] H := hP
  have hD : va_D A [(h0, .inr (12, [.int 0, .ref a_1, .ref a_3, .ref a_5, .int (-1), .int (-1), .int 0, .ref a_7, .ref a_9, .ref a_11, .ref a_13, .ref a_15, .ref a_17, .ref a_19, .ref a_21, .ref a_23, .int 0, .int 0, .null, .int 0, .int 45, .ref a_25, .ref a_27, .null, .null, .null])), (a_1, .inr (14, [.int 0, .ref tE, .int 0])), (a_3, .inr (14, [.int 0, .ref tE, .int 0])), (a_5, .inl (cA_6, 7, .inl (fun _ => 0))), (a_7, .inl (cA_8, 7, .inl (fun _ => 0))), (a_9, .inl (cA_10, 7, .inl (fun _ => 0))), (a_11, .inl (cA_12, 7, .inl (fun _ => 0))), (a_13, .inl (cA_14, 7, .inl (fun _ => 0))), (a_15, .inl (cA_16, 7, .inl (fun _ => 0))), (a_17, .inl (cA_18, 7, .inl (fun _ => 0))), (a_19, .inl (cA_20, 7, .inl (fun _ => 0))), (a_21, .inl (cA_22, 7, .inl (fun _ => 0))), (a_23, .inl (cA_24, 7, .inl (fun _ => 0))), (a_25, .inr (14, [.int 0, .ref tE, .int 0])), (a_27, .inr (14, [.int 0, .ref tE, .int 0]))] := hD
  refine lv_aload_n hx hb dX12_init_144 rfl (lv_at hl 0 rfl) ?_
  refine va_new (ci := 14) (fs := [.int 0, .null, .int 0]) (C := RJx4a65c) (T := TJx4a65c) (N := 3) hx hb hq i_Jx4a65c tyJx4a65c tyJx4a65c_ok hown (hq _ q_1271) (hq _ q_1272) (hq _ q_15) hK hP hD hS hA rfl (fun j hj => by rcases (show j = 0 ∨ j = 1 ∨ j = 2 by omega) with rfl | rfl | rfl <;> rfl) (Nat.le_of_ble_eq_true rfl) (Nat.le_of_ble_eq_true rfl) dX12_init_145 (fun a_29 H hP hD hS => ?_)
  have hP : va_P (dC, dI) cls [(h0, .inr (12, [.int 0, .ref a_1, .ref a_3, .ref a_5, .int (-1), .int (-1), .int 0, .ref a_7, .ref a_9, .ref a_11, .ref a_13, .ref a_15, .ref a_17, .ref a_19, .ref a_21, .ref a_23, .int 0, .int 0, .null, .int 0, .int 45, .ref a_25, .ref a_27, .null, .null, .null])), (a_1, .inr (14, [.int 0, .ref tE, .int 0])), (a_3, .inr (14, [.int 0, .ref tE, .int 0])), (a_5, .inl (cA_6, 7, .inl (fun _ => 0))), (a_7, .inl (cA_8, 7, .inl (fun _ => 0))), (a_9, .inl (cA_10, 7, .inl (fun _ => 0))), (a_11, .inl (cA_12, 7, .inl (fun _ => 0))), (a_13, .inl (cA_14, 7, .inl (fun _ => 0))), (a_15, .inl (cA_16, 7, .inl (fun _ => 0))), (a_17, .inl (cA_18, 7, .inl (fun _ => 0))), (a_19, .inl (cA_20, 7, .inl (fun _ => 0))), (a_21, .inl (cA_22, 7, .inl (fun _ => 0))), (a_23, .inl (cA_24, 7, .inl (fun _ => 0))), (a_25, .inr (14, [.int 0, .ref tE, .int 0])), (a_27, .inr (14, [.int 0, .ref tE, .int 0])), (a_29, .inr (14, [.int 0, .null, .int 0]))] H := hP
  have hD : va_D A [(h0, .inr (12, [.int 0, .ref a_1, .ref a_3, .ref a_5, .int (-1), .int (-1), .int 0, .ref a_7, .ref a_9, .ref a_11, .ref a_13, .ref a_15, .ref a_17, .ref a_19, .ref a_21, .ref a_23, .int 0, .int 0, .null, .int 0, .int 45, .ref a_25, .ref a_27, .null, .null, .null])), (a_1, .inr (14, [.int 0, .ref tE, .int 0])), (a_3, .inr (14, [.int 0, .ref tE, .int 0])), (a_5, .inl (cA_6, 7, .inl (fun _ => 0))), (a_7, .inl (cA_8, 7, .inl (fun _ => 0))), (a_9, .inl (cA_10, 7, .inl (fun _ => 0))), (a_11, .inl (cA_12, 7, .inl (fun _ => 0))), (a_13, .inl (cA_14, 7, .inl (fun _ => 0))), (a_15, .inl (cA_16, 7, .inl (fun _ => 0))), (a_17, .inl (cA_18, 7, .inl (fun _ => 0))), (a_19, .inl (cA_20, 7, .inl (fun _ => 0))), (a_21, .inl (cA_22, 7, .inl (fun _ => 0))), (a_23, .inl (cA_24, 7, .inl (fun _ => 0))), (a_25, .inr (14, [.int 0, .ref tE, .int 0])), (a_27, .inr (14, [.int 0, .ref tE, .int 0])), (a_29, .inr (14, [.int 0, .null, .int 0]))] := hD
  refine W.widen (k := 15) (n := 85) (Nat.le_of_ble_eq_true rfl) (Nat.le_of_ble_eq_true rfl) ?_
  refine lv_dup hx hb dX12_init_148 rfl ?_
  have hPc := hP.sub (ws' := [(a_29, .inr (14, [.int 0, .null, .int 0]))]) [15] rfl
  have hKc := hK.sub (tys' := []) [] rfl
  have hDc := hD.sub (ws' := [(a_29, .inr (14, [.int 0, .null, .int 0]))]) [15] (by decide) rfl
  have hFc := va_free (wc := [(a_29, .inr (14, [.int 0, .null, .int 0]))]) hD hS hA [15] rfl
  refine va_callv (va_runI (As := []) (rest := [.ref a_29, .ref h0]) ⟨hx, hb, hml, hown, hq⟩ (c_AL_init l hst tE adK adV dC dI a_29 H.size) (tcI 0 hq q_1275 q_15 q_1273 q_1274 rfl rfl rfl (by decide +kernel) ⟨Nat.le_of_ble_eq_true rfl, Nat.le_of_ble_eq_true rfl⟩) (pre.S (pre.of hPc hDc hKc ham hS hFc)) rfl rfl hl.1 rfl (lv_room (Nat.le_of_ble_eq_true rfl)) dX12_init_149 ⟨Nat.le_of_ble_eq_true rfl, Nat.le_of_ble_eq_true rfl⟩) hS (fun q _ h => hFc q h) hFc (fun u t H1 locs ht hvm hw hB hz1 hk1 hS => ?_)
  obtain ⟨hP1, hK1, hD1⟩ := hB
  rw [ht] at hP1
  have hK1 := va_K.moved hvm.symm hK1
  obtain ⟨hP, hD⟩ := va_join (wr := [(h0, .inr (12, [.int 0, .ref a_1, .ref a_3, .ref a_5, .int (-1), .int (-1), .int 0, .ref a_7, .ref a_9, .ref a_11, .ref a_13, .ref a_15, .ref a_17, .ref a_19, .ref a_21, .ref a_23, .int 0, .int 0, .null, .int 0, .int 45, .ref a_25, .ref a_27, .null, .null, .null])), (a_1, .inr (14, [.int 0, .ref tE, .int 0])), (a_3, .inr (14, [.int 0, .ref tE, .int 0])), (a_5, .inl (cA_6, 7, .inl (fun _ => 0))), (a_7, .inl (cA_8, 7, .inl (fun _ => 0))), (a_9, .inl (cA_10, 7, .inl (fun _ => 0))), (a_11, .inl (cA_12, 7, .inl (fun _ => 0))), (a_13, .inl (cA_14, 7, .inl (fun _ => 0))), (a_15, .inl (cA_16, 7, .inl (fun _ => 0))), (a_17, .inl (cA_18, 7, .inl (fun _ => 0))), (a_19, .inl (cA_20, 7, .inl (fun _ => 0))), (a_21, .inl (cA_22, 7, .inl (fun _ => 0))), (a_23, .inl (cA_24, 7, .inl (fun _ => 0))), (a_25, .inr (14, [.int 0, .ref tE, .int 0])), (a_27, .inr (14, [.int 0, .ref tE, .int 0]))]) (w1 := [(a_29, .inr (14, [.int 0, .ref tE, .int 0]))]) (wc := [(a_29, .inr (14, [.int 0, .null, .int 0]))]) hP hD [15] [0, 1, 2, 3, 4, 5, 6, 7, 8, 9, 10, 11, 12, 13, 14] rfl rfl (by decide) (by decide) hk1 hFc hP1 hD1
  have hK := (hK.sub (tys' := [(cA_6, .int), (cA_8, .int), (cA_10, .int), (cA_12, .int), (cA_14, .int), (cA_16, .int), (cA_18, .int), (cA_20, .char), (cA_22, .boolean), (cA_24, .boolean)]) [0, 1, 2, 3, 4, 5, 6, 7, 8, 9] rfl).app hK1
  generalize H1 = H at hP hS ⊢
  have hP : va_P (dC, dI) cls [(h0, .inr (12, [.int 0, .ref a_1, .ref a_3, .ref a_5, .int (-1), .int (-1), .int 0, .ref a_7, .ref a_9, .ref a_11, .ref a_13, .ref a_15, .ref a_17, .ref a_19, .ref a_21, .ref a_23, .int 0, .int 0, .null, .int 0, .int 45, .ref a_25, .ref a_27, .null, .null, .null])), (a_1, .inr (14, [.int 0, .ref tE, .int 0])), (a_3, .inr (14, [.int 0, .ref tE, .int 0])), (a_5, .inl (cA_6, 7, .inl (fun _ => 0))), (a_7, .inl (cA_8, 7, .inl (fun _ => 0))), (a_9, .inl (cA_10, 7, .inl (fun _ => 0))), (a_11, .inl (cA_12, 7, .inl (fun _ => 0))), (a_13, .inl (cA_14, 7, .inl (fun _ => 0))), (a_15, .inl (cA_16, 7, .inl (fun _ => 0))), (a_17, .inl (cA_18, 7, .inl (fun _ => 0))), (a_19, .inl (cA_20, 7, .inl (fun _ => 0))), (a_21, .inl (cA_22, 7, .inl (fun _ => 0))), (a_23, .inl (cA_24, 7, .inl (fun _ => 0))), (a_25, .inr (14, [.int 0, .ref tE, .int 0])), (a_27, .inr (14, [.int 0, .ref tE, .int 0])), (a_29, .inr (14, [.int 0, .ref tE, .int 0]))] H := hP
  have hD : va_D A [(h0, .inr (12, [.int 0, .ref a_1, .ref a_3, .ref a_5, .int (-1), .int (-1), .int 0, .ref a_7, .ref a_9, .ref a_11, .ref a_13, .ref a_15, .ref a_17, .ref a_19, .ref a_21, .ref a_23, .int 0, .int 0, .null, .int 0, .int 45, .ref a_25, .ref a_27, .null, .null, .null])), (a_1, .inr (14, [.int 0, .ref tE, .int 0])), (a_3, .inr (14, [.int 0, .ref tE, .int 0])), (a_5, .inl (cA_6, 7, .inl (fun _ => 0))), (a_7, .inl (cA_8, 7, .inl (fun _ => 0))), (a_9, .inl (cA_10, 7, .inl (fun _ => 0))), (a_11, .inl (cA_12, 7, .inl (fun _ => 0))), (a_13, .inl (cA_14, 7, .inl (fun _ => 0))), (a_15, .inl (cA_16, 7, .inl (fun _ => 0))), (a_17, .inl (cA_18, 7, .inl (fun _ => 0))), (a_19, .inl (cA_20, 7, .inl (fun _ => 0))), (a_21, .inl (cA_22, 7, .inl (fun _ => 0))), (a_23, .inl (cA_24, 7, .inl (fun _ => 0))), (a_25, .inr (14, [.int 0, .ref tE, .int 0])), (a_27, .inr (14, [.int 0, .ref tE, .int 0])), (a_29, .inr (14, [.int 0, .ref tE, .int 0]))] := hD
  have hK : va_K (dC, dI) cls [(cA_6, .int), (cA_8, .int), (cA_10, .int), (cA_12, .int), (cA_14, .int), (cA_16, .int), (cA_18, .int), (cA_20, .char), (cA_22, .boolean), (cA_24, .boolean)] s := hK
  refine W.widen (k := 15) (n := 85) (Nat.le_of_ble_eq_true rfl) (Nat.le_of_ble_eq_true rfl) ?_
  refine va_putF (D := (dC, dI)) (ci := 12) (v := .ref a_29) (ty := (.object "java/util/List")) (C := RX12) (T := TX12) (N := 26) hx hb hq i_X12 tyX12 tyX12_ok nmX12 hown hK hP hD hS 0 rfl rfl 23 (by decide) (hq _ q_1327) (fun _ h9 => h9) rfl hin rfl (by decide +kernel) rfl rfl (Nat.le_of_ble_eq_true rfl) dX12_init_152 (fun H locs hP hD hS => ?_)
  have hP : va_P (dC, dI) cls [(h0, .inr (12, [.int 0, .ref a_1, .ref a_3, .ref a_5, .int (-1), .int (-1), .int 0, .ref a_7, .ref a_9, .ref a_11, .ref a_13, .ref a_15, .ref a_17, .ref a_19, .ref a_21, .ref a_23, .int 0, .int 0, .null, .int 0, .int 45, .ref a_25, .ref a_27, .ref a_29, .null, .null])), (a_1, .inr (14, [.int 0, .ref tE, .int 0])), (a_3, .inr (14, [.int 0, .ref tE, .int 0])), (a_5, .inl (cA_6, 7, .inl (fun _ => 0))), (a_7, .inl (cA_8, 7, .inl (fun _ => 0))), (a_9, .inl (cA_10, 7, .inl (fun _ => 0))), (a_11, .inl (cA_12, 7, .inl (fun _ => 0))), (a_13, .inl (cA_14, 7, .inl (fun _ => 0))), (a_15, .inl (cA_16, 7, .inl (fun _ => 0))), (a_17, .inl (cA_18, 7, .inl (fun _ => 0))), (a_19, .inl (cA_20, 7, .inl (fun _ => 0))), (a_21, .inl (cA_22, 7, .inl (fun _ => 0))), (a_23, .inl (cA_24, 7, .inl (fun _ => 0))), (a_25, .inr (14, [.int 0, .ref tE, .int 0])), (a_27, .inr (14, [.int 0, .ref tE, .int 0])), (a_29, .inr (14, [.int 0, .ref tE, .int 0]))] H := hP
  have hD : va_D A [(h0, .inr (12, [.int 0, .ref a_1, .ref a_3, .ref a_5, .int (-1), .int (-1), .int 0, .ref a_7, .ref a_9, .ref a_11, .ref a_13, .ref a_15, .ref a_17, .ref a_19, .ref a_21, .ref a_23, .int 0, .int 0, .null, .int 0, .int 45, .ref a_25, .ref a_27, .ref a_29, .null, .null])), (a_1, .inr (14, [.int 0, .ref tE, .int 0])), (a_3, .inr (14, [.int 0, .ref tE, .int 0])), (a_5, .inl (cA_6, 7, .inl (fun _ => 0))), (a_7, .inl (cA_8, 7, .inl (fun _ => 0))), (a_9, .inl (cA_10, 7, .inl (fun _ => 0))), (a_11, .inl (cA_12, 7, .inl (fun _ => 0))), (a_13, .inl (cA_14, 7, .inl (fun _ => 0))), (a_15, .inl (cA_16, 7, .inl (fun _ => 0))), (a_17, .inl (cA_18, 7, .inl (fun _ => 0))), (a_19, .inl (cA_20, 7, .inl (fun _ => 0))), (a_21, .inl (cA_22, 7, .inl (fun _ => 0))), (a_23, .inl (cA_24, 7, .inl (fun _ => 0))), (a_25, .inr (14, [.int 0, .ref tE, .int 0])), (a_27, .inr (14, [.int 0, .ref tE, .int 0])), (a_29, .inr (14, [.int 0, .ref tE, .int 0]))] := hD
  refine lv_aload_n hx hb dX12_init_155 rfl (lv_at hl 0 rfl) ?_
  refine va_new (ci := 14) (fs := [.int 0, .null, .int 0]) (C := RJx4a65c) (T := TJx4a65c) (N := 3) hx hb hq i_Jx4a65c tyJx4a65c tyJx4a65c_ok hown (hq _ q_1271) (hq _ q_1272) (hq _ q_15) hK hP hD hS hA rfl (fun j hj => by rcases (show j = 0 ∨ j = 1 ∨ j = 2 by omega) with rfl | rfl | rfl <;> rfl) (Nat.le_of_ble_eq_true rfl) (Nat.le_of_ble_eq_true rfl) dX12_init_156 (fun a_31 H hP hD hS => ?_)
  have hP : va_P (dC, dI) cls [(h0, .inr (12, [.int 0, .ref a_1, .ref a_3, .ref a_5, .int (-1), .int (-1), .int 0, .ref a_7, .ref a_9, .ref a_11, .ref a_13, .ref a_15, .ref a_17, .ref a_19, .ref a_21, .ref a_23, .int 0, .int 0, .null, .int 0, .int 45, .ref a_25, .ref a_27, .ref a_29, .null, .null])), (a_1, .inr (14, [.int 0, .ref tE, .int 0])), (a_3, .inr (14, [.int 0, .ref tE, .int 0])), (a_5, .inl (cA_6, 7, .inl (fun _ => 0))), (a_7, .inl (cA_8, 7, .inl (fun _ => 0))), (a_9, .inl (cA_10, 7, .inl (fun _ => 0))), (a_11, .inl (cA_12, 7, .inl (fun _ => 0))), (a_13, .inl (cA_14, 7, .inl (fun _ => 0))), (a_15, .inl (cA_16, 7, .inl (fun _ => 0))), (a_17, .inl (cA_18, 7, .inl (fun _ => 0))), (a_19, .inl (cA_20, 7, .inl (fun _ => 0))), (a_21, .inl (cA_22, 7, .inl (fun _ => 0))), (a_23, .inl (cA_24, 7, .inl (fun _ => 0))), (a_25, .inr (14, [.int 0, .ref tE, .int 0])), (a_27, .inr (14, [.int 0, .ref tE, .int 0])), (a_29, .inr (14, [.int 0, .ref tE, .int 0])), (a_31, .inr (14, [.int 0, .null, .int 0]))] H := hP
  have hD : va_D A [(h0, .inr (12, [.int 0, .ref a_1, .ref a_3, .ref a_5, .int (-1), .int (-1), .int 0, .ref a_7, .ref a_9, .ref a_11, .ref a_13, .ref a_15, .ref a_17, .ref a_19, .ref a_21, .ref a_23, .int 0, .int 0, .null, .int 0, .int 45, .ref a_25, .ref a_27, .ref a_29, .null, .null])), (a_1, .inr (14, [.int 0, .ref tE, .int 0])), (a_3, .inr (14, [.int 0, .ref tE, .int 0])), (a_5, .inl (cA_6, 7, .inl (fun _ => 0))), (a_7, .inl (cA_8, 7, .inl (fun _ => 0))), (a_9, .inl (cA_10, 7, .inl (fun _ => 0))), (a_11, .inl (cA_12, 7, .inl (fun _ => 0))), (a_13, .inl (cA_14, 7, .inl (fun _ => 0))), (a_15, .inl (cA_16, 7, .inl (fun _ => 0))), (a_17, .inl (cA_18, 7, .inl (fun _ => 0))), (a_19, .inl (cA_20, 7, .inl (fun _ => 0))), (a_21, .inl (cA_22, 7, .inl (fun _ => 0))), (a_23, .inl (cA_24, 7, .inl (fun _ => 0))), (a_25, .inr (14, [.int 0, .ref tE, .int 0])), (a_27, .inr (14, [.int 0, .ref tE, .int 0])), (a_29, .inr (14, [.int 0, .ref tE, .int 0])), (a_31, .inr (14, [.int 0, .null, .int 0]))] := hD
  refine W.widen (k := 16) (n := 88) (Nat.le_of_ble_eq_true rfl) (Nat.le_of_ble_eq_true rfl) ?_
  refine lv_dup hx hb dX12_init_159 rfl ?_
  have hPc := hP.sub (ws' := [(a_31, .inr (14, [.int 0, .null, .int 0]))]) [16] rfl
  have hKc := hK.sub (tys' := []) [] rfl
  have hDc := hD.sub (ws' := [(a_31, .inr (14, [.int 0, .null, .int 0]))]) [16] (by decide) rfl
  have hFc := va_free (wc := [(a_31, .inr (14, [.int 0, .null, .int 0]))]) hD hS hA [16] rfl
  refine va_callv (va_runI (As := []) (rest := [.ref a_31, .ref h0]) ⟨hx, hb, hml, hown, hq⟩ (c_AL_init l hst tE adK adV dC dI a_31 H.size) (tcI 0 hq q_1275 q_15 q_1273 q_1274 rfl rfl rfl (by decide +kernel) ⟨Nat.le_of_ble_eq_true rfl, Nat.le_of_ble_eq_true rfl⟩) (pre.S (pre.of hPc hDc hKc ham hS hFc)) rfl rfl hl.1 rfl (lv_room (Nat.le_of_ble_eq_true rfl)) dX12_init_160 ⟨Nat.le_of_ble_eq_true rfl, Nat.le_of_ble_eq_true rfl⟩) hS (fun q _ h => hFc q h) hFc (fun u t H1 locs ht hvm hw hB hz1 hk1 hS => ?_)
  obtain ⟨hP1, hK1, hD1⟩ := hB
  rw [ht] at hP1
  have hK1 := va_K.moved hvm.symm hK1
  obtain ⟨hP, hD⟩ := va_join (wr := [(h0, .inr (12, [.int 0, .ref a_1, .ref a_3, .ref a_5, .int (-1), .int (-1), .int 0, .ref a_7, .ref a_9, .ref a_11, .ref a_13, .ref a_15, .ref a_17, .ref a_19, .ref a_21, .ref a_23, .int 0, .int 0, .null, .int 0, .int 45, .ref a_25, .ref a_27, .ref a_29, .null, .null])), (a_1, .inr (14, [.int 0, .ref tE, .int 0])), (a_3, .inr (14, [.int 0, .ref tE, .int 0])), (a_5, .inl (cA_6, 7, .inl (fun _ => 0))), (a_7, .inl (cA_8, 7, .inl (fun _ => 0))), (a_9, .inl (cA_10, 7, .inl (fun _ => 0))), (a_11, .inl (cA_12, 7, .inl (fun _ => 0))), (a_13, .inl (cA_14, 7, .inl (fun _ => 0))), (a_15, .inl (cA_16, 7, .inl (fun _ => 0))), (a_17, .inl (cA_18, 7, .inl (fun _ => 0))), (a_19, .inl (cA_20, 7, .inl (fun _ => 0))), (a_21, .inl (cA_22, 7, .inl (fun _ => 0))), (a_23, .inl (cA_24, 7, .inl (fun _ => 0))), (a_25, .inr (14, [.int 0, .ref tE, .int 0])), (a_27, .inr (14, [.int 0, .ref tE, .int 0])), (a_29, .inr (14, [.int 0, .ref tE, .int 0]))]) (w1 := [(a_31, .inr (14, [.int 0, .ref tE, .int 0]))]) (wc := [(a_31, .inr (14, [.int 0, .null, .int 0]))]) hP hD [16] [0, 1, 2, 3, 4, 5, 6, 7, 8, 9, 10, 11, 12, 13, 14, 15] rfl rfl (by decide) (by decide) hk1 hFc hP1 hD1
  have hK := (hK.sub (tys' := [(cA_6, .int), (cA_8, .int), (cA_10, .int), (cA_12, .int), (cA_14, .int), (cA_16, .int), (cA_18, .int), (cA_20, .char), (cA_22, .boolean), (cA_24, .boolean)]) [0, 1, 2, 3, 4, 5, 6, 7, 8, 9] rfl).app hK1
  generalize H1 = H at hP hS ⊢
  have hP : va_P (dC, dI) cls [(h0, .inr (12, [.int 0, .ref a_1, .ref a_3, .ref a_5, .int (-1), .int (-1), .int 0, .ref a_7, .ref a_9, .ref a_11, .ref a_13, .ref a_15, .ref a_17, .ref a_19, .ref a_21, .ref a_23, .int 0, .int 0, .null, .int 0, .int 45, .ref a_25, .ref a_27, .ref a_29, .null, .null])), (a_1, .inr (14, [.int 0, .ref tE, .int 0])), (a_3, .inr (14, [.int 0, .ref tE, .int 0])), (a_5, .inl (cA_6, 7, .inl (fun _ => 0))), (a_7, .inl (cA_8, 7, .inl (fun _ => 0))), (a_9, .inl (cA_10, 7, .inl (fun _ => 0))), (a_11, .inl (cA_12, 7, .inl (fun _ => 0))), (a_13, .inl (cA_14, 7, .inl (fun _ => 0))), (a_15, .inl (cA_16, 7, .inl (fun _ => 0))), (a_17, .inl (cA_18, 7, .inl (fun _ => 0))), (a_19, .inl (cA_20, 7, .inl (fun _ => 0))), (a_21, .inl (cA_22, 7, .inl (fun _ => 0))), (a_23, .inl (cA_24, 7, .inl (fun _ => 0))), (a_25, .inr (14, [.int 0, .ref tE, .int 0])), (a_27, .inr (14, [.int 0, .ref tE, .int 0])), (a_29, .inr (14, [.int 0, .ref tE, .int 0])), (a_31, .inr (14, [.int 0, .ref tE, .int 0]))] H := hP
  have hD : va_D A [(h0, .inr (12, [.int 0, .ref a_1, .ref a_3, .ref a_5, .int (-1), .int (-1), .int 0, .ref a_7, .ref a_9, .ref a_11, .ref a_13, .ref a_15, .ref a_17, .ref a_19, .ref a_21, .ref a_23, .int 0, .int 0, .null, .int 0, .int 45, .ref a_25, .ref a_27, .ref a_29, .null, .null])), (a_1, .inr (14, [.int 0, .ref tE, .int 0])), (a_3, .inr (14, [.int 0, .ref tE, .int 0])), (a_5, .inl (cA_6, 7, .inl (fun _ => 0))), (a_7, .inl (cA_8, 7, .inl (fun _ => 0))), (a_9, .inl (cA_10, 7, .inl (fun _ => 0))), (a_11, .inl (cA_12, 7, .inl (fun _ => 0))), (a_13, .inl (cA_14, 7, .inl (fun _ => 0))), (a_15, .inl (cA_16, 7, .inl (fun _ => 0))), (a_17, .inl (cA_18, 7, .inl (fun _ => 0))), (a_19, .inl (cA_20, 7, .inl (fun _ => 0))), (a_21, .inl (cA_22, 7, .inl (fun _ => 0))), (a_23, .inl (cA_24, 7, .inl (fun _ => 0))), (a_25, .inr (14, [.int 0, .ref tE, .int 0])), (a_27, .inr (14, [.int 0, .ref tE, .int 0])), (a_29, .inr (14, [.int 0, .ref tE, .int 0])), (a_31, .inr (14, [.int 0, .ref tE, .int 0]))] := hD
  have hK : va_K (dC, dI) cls [(cA_6, .int), (cA_8, .int), (cA_10, .int), (cA_12, .int), (cA_14, .int), (cA_16, .int), (cA_18, .int), (cA_20, .char), (cA_22, .boolean), (cA_24, .boolean)] s := hK
  refine W.widen (k := 16) (n := 88) (Nat.le_of_ble_eq_true rfl) (Nat.le_of_ble_eq_true rfl) ?_
  refine va_putF (D := (dC, dI)) (ci := 12) (v := .ref a_31) (ty := (.object "java/util/List")) (C := RX12) (T := TX12) (N := 26) hx hb hq i_X12 tyX12 tyX12_ok nmX12 hown hK hP hD hS 0 rfl rfl 24 (by decide) (hq _ q_1328) (fun _ h9 => h9) rfl hin rfl (by decide +kernel) rfl rfl (Nat.le_of_ble_eq_true rfl) dX12_init_163 (fun H locs hP hD hS => ?_)
  have hP : va_P (dC, dI) cls [(h0, .inr (12, [.int 0, .ref a_1, .ref a_3, .ref a_5, .int (-1), .int (-1), .int 0, .ref a_7, .ref a_9, .ref a_11, .ref a_13, .ref a_15, .ref a_17, .ref a_19, .ref a_21, .ref a_23, .int 0, .int 0, .null, .int 0, .int 45, .ref a_25, .ref a_27, .ref a_29, .ref a_31, .null])), (a_1, .inr (14, [.int 0, .ref tE, .int 0])), (a_3, .inr (14, [.int 0, .ref tE, .int 0])), (a_5, .inl (cA_6, 7, .inl (fun _ => 0))), (a_7, .inl (cA_8, 7, .inl (fun _ => 0))), (a_9, .inl (cA_10, 7, .inl (fun _ => 0))), (a_11, .inl (cA_12, 7, .inl (fun _ => 0))), (a_13, .inl (cA_14, 7, .inl (fun _ => 0))), (a_15, .inl (cA_16, 7, .inl (fun _ => 0))), (a_17, .inl (cA_18, 7, .inl (fun _ => 0))), (a_19, .inl (cA_20, 7, .inl (fun _ => 0))), (a_21, .inl (cA_22, 7, .inl (fun _ => 0))), (a_23, .inl (cA_24, 7, .inl (fun _ => 0))), (a_25, .inr (14, [.int 0, .ref tE, .int 0])), (a_27, .inr (14, [.int 0, .ref tE, .int 0])), (a_29, .inr (14, [.int 0, .ref tE, .int 0])), (a_31, .inr (14, [.int 0, .ref tE, .int 0]))] H := hP
  have hD : va_D A [(h0, .inr (12, [.int 0, .ref a_1, .ref a_3, .ref a_5, .int (-1), .int (-1), .int 0, .ref a_7, .ref a_9, .ref a_11, .ref a_13, .ref a_15, .ref a_17, .ref a_19, .ref a_21, .ref a_23, .int 0, .int 0, .null, .int 0, .int 45, .ref a_25, .ref a_27, .ref a_29, .ref a_31, .null])), (a_1, .inr (14, [.int 0, .ref tE, .int 0])), (a_3, .inr (14, [.int 0, .ref tE, .int 0])), (a_5, .inl (cA_6, 7, .inl (fun _ => 0))), (a_7, .inl (cA_8, 7, .inl (fun _ => 0))), (a_9, .inl (cA_10, 7, .inl (fun _ => 0))), (a_11, .inl (cA_12, 7, .inl (fun _ => 0))), (a_13, .inl (cA_14, 7, .inl (fun _ => 0))), (a_15, .inl (cA_16, 7, .inl (fun _ => 0))), (a_17, .inl (cA_18, 7, .inl (fun _ => 0))), (a_19, .inl (cA_20, 7, .inl (fun _ => 0))), (a_21, .inl (cA_22, 7, .inl (fun _ => 0))), (a_23, .inl (cA_24, 7, .inl (fun _ => 0))), (a_25, .inr (14, [.int 0, .ref tE, .int 0])), (a_27, .inr (14, [.int 0, .ref tE, .int 0])), (a_29, .inr (14, [.int 0, .ref tE, .int 0])), (a_31, .inr (14, [.int 0, .ref tE, .int 0]))] := hD
  refine lv_aload_n hx hb dX12_init_166 rfl (lv_at hl 0 rfl) ?_
  refine va_new (ci := 14) (fs := [.int 0, .null, .int 0]) (C := RJx4a65c) (T := TJx4a65c) (N := 3) hx hb hq i_Jx4a65c tyJx4a65c tyJx4a65c_ok hown (hq _ q_1271) (hq _ q_1272) (hq _ q_15) hK hP hD hS hA rfl (fun j hj => by rcases (show j = 0 ∨ j = 1 ∨ j = 2 by omega) with rfl | rfl | rfl <;> rfl) (Nat.le_of_ble_eq_true rfl) (Nat.le_of_ble_eq_true rfl) dX12_init_167 (fun a_33 H hP hD hS => ?_)
  have hP : va_P (dC, dI) cls [(h0, .inr (12, [.int 0, .ref a_1, .ref a_3, .ref a_5, .int (-1), .int (-1), .int 0, .ref a_7, .ref a_9, .ref a_11, .ref a_13, .ref a_15, .ref a_17, .ref a_19, .ref a_21, .ref a_23, .int 0, .int 0, .null, .int 0, .int 45, .ref a_25, .ref a_27, .ref a_29, .ref a_31, .null])), (a_1, .inr (14, [.int 0, .ref tE, .int 0])), (a_3, .inr (14, [.int 0, .ref tE, .int 0])), (a_5, .inl (cA_6, 7, .inl (fun _ => 0))), (a_7, .inl (cA_8, 7, .inl (fun _ => 0))), (a_9, .inl (cA_10, 7, .inl (fun _ => 0))), (a_11, .inl (cA_12, 7, .inl (fun _ => 0))), (a_13, .inl (cA_14, 7, .inl (fun _ => 0))), (a_15, .inl (cA_16, 7, .inl (fun _ => 0))), (a_17, .inl (cA_18, 7, .inl (fun _ => 0))), (a_19, .inl (cA_20, 7, .inl (fun _ => 0))), (a_21, .inl (cA_22, 7, .inl (fun _ => 0))), (a_23, .inl (cA_24, 7, .inl (fun _ => 0))), (a_25, .inr (14, [.int 0, .ref tE, .int 0])), (a_27, .inr (14, [.int 0, .ref tE, .int 0])), (a_29, .inr (14, [.int 0, .ref tE, .int 0])), (a_31, .inr (14, [.int 0, .ref tE, .int 0])), (a_33, .inr (14, [.int 0, .null, .int 0]))] H := hP
  have hD : va_D A [(h0, .inr (12, [.int 0, .ref a_1, .ref a_3, .ref a_5, .int (-1), .int (-1), .int 0, .ref a_7, .ref a_9, .ref a_11, .ref a_13, .ref a_15, .ref a_17, .ref a_19, .ref a_21, .ref a_23, .int 0, .int 0, .null, .int 0, .int 45, .ref a_25, .ref a_27, .ref a_29, .ref a_31, .null])), (a_1, .inr (14, [.int 0, .ref tE, .int 0])), (a_3, .inr (14, [.int 0, .ref tE, .int 0])), (a_5, .inl (cA_6, 7, .inl (fun _ => 0))), (a_7, .inl (cA_8, 7, .inl (fun _ => 0))), (a_9, .inl (cA_10, 7, .inl (fun _ => 0))), (a_11, .inl (cA_12, 7, .inl (fun _ => 0))), (a_13, .inl (cA_14, 7, .inl (fun _ => 0))), (a_15, .inl (cA_16, 7, .inl (fun _ => 0))), (a_17, .inl (cA_18, 7, .inl (fun _ => 0))), (a_19, .inl (cA_20, 7, .inl (fun _ => 0))), (a_21, .inl (cA_22, 7, .inl (fun _ => 0))), (a_23, .inl (cA_24, 7, .inl (fun _ => 0))), (a_25, .inr (14, [.int 0, .ref tE, .int 0])), (a_27, .inr (14, [.int 0, .ref tE, .int 0])), (a_29, .inr (14, [.int 0, .ref tE, .int 0])), (a_31, .inr (14, [.int 0, .ref tE, .int 0])), (a_33, .inr (14, [.int 0, .null, .int 0]))] := hD
  refine W.widen (k := 17) (n := 91) (Nat.le_of_ble_eq_true rfl) (Nat.le_of_ble_eq_true rfl) ?_
  refine lv_dup hx hb dX12_init_170 rfl ?_
  have hPc := hP.sub (ws' := [(a_33, .inr (14, [.int 0, .null, .int 0]))]) [17] rfl
  have hKc := hK.sub (tys' := []) [] rfl
  have hDc := hD.sub (ws' := [(a_33, .inr (14, [.int 0, .null, .int 0]))]) [17] (by decide) rfl
  have hFc := va_free (wc := [(a_33, .inr (14, [.int 0, .null, .int 0]))]) hD hS hA [17] rfl
  refine va_callv (va_runI (As := []) (rest := [.ref a_33, .ref h0]) ⟨hx, hb, hml, hown, hq⟩ (c_AL_init l hst tE adK adV dC dI a_33 H.size) (tcI 0 hq q_1275 q_15 q_1273 q_1274 rfl rfl rfl (by decide +kernel) ⟨Nat.le_of_ble_eq_true rfl, Nat.le_of_ble_eq_true rfl⟩) (pre.S (pre.of hPc hDc hKc ham hS hFc)) rfl rfl hl.1 rfl (lv_room (Nat.le_of_ble_eq_true rfl)) dX12_init_171 ⟨Nat.le_of_ble_eq_true rfl, Nat.le_of_ble_eq_true rfl⟩) hS (fun q _ h => hFc q h) hFc (fun u t H1 locs ht hvm hw hB hz1 hk1 hS => ?_)
  obtain ⟨hP1, hK1, hD1⟩ := hB
  rw [ht] at hP1
  have hK1 := va_K.moved hvm.symm hK1
  obtain ⟨hP, hD⟩ := va_join (wr := [(h0, .inr (12, [.int 0, .ref a_1, .ref a_3, .ref a_5, .int (-1), .int (-1), .int 0, .ref a_7, .ref a_9, .ref a_11, .ref a_13, .ref a_15, .ref a_17, .ref a_19, .ref a_21, .ref a_23, .int 0, .int 0, .null, .int 0, .int 45, .ref a_25, .ref a_27, .ref a_29, .ref a_31, .null])), (a_1, .inr (14, [.int 0, .ref tE, .int 0])), (a_3, .inr (14, [.int 0, .ref tE, .int 0])), (a_5, .inl (cA_6, 7, .inl (fun _ => 0))), (a_7, .inl (cA_8, 7, .inl (fun _ => 0))), (a_9, .inl (cA_10, 7, .inl (fun _ => 0))), (a_11, .inl (cA_12, 7, .inl (fun _ => 0))), (a_13, .inl (cA_14, 7, .inl (fun _ => 0))), (a_15, .inl (cA_16, 7, .inl (fun _ => 0))), (a_17, .inl (cA_18, 7, .inl (fun _ => 0))), (a_19, .inl (cA_20, 7, .inl (fun _ => 0))), (a_21, .inl (cA_22, 7, .inl (fun _ => 0))), (a_23, .inl (cA_24, 7, .inl (fun _ => 0))), (a_25, .inr (14, [.int 0, .ref tE, .int 0])), (a_27, .inr (14, [.int 0, .ref tE, .int 0])), (a_29, .inr (14, [.int 0, .ref tE, .int 0])), (a_31, .inr (14, [.int 0, .ref tE, .int 0]))]) (w1 := [(a_33, .inr (14, [.int 0, .ref tE, .int 0]))]) (wc := [(a_33, .inr (14, [.int 0, .null, .int 0]))]) hP hD [17] [0, 1, 2, 3, 4, 5, 6, 7, 8, 9, 10, 11, 12, 13, 14, 15, 16] rfl rfl (by decide) (by decide) hk1 hFc hP1 hD1
  have hK := (hK.sub (tys' := [(cA_6, .int), (cA_8, .int), (cA_10, .int), (cA_12, .int), (cA_14, .int), (cA_16, .int), (cA_18, .int), (cA_20, .char), (cA_22, .boolean), (cA_24, .boolean)]) [0, 1, 2, 3, 4, 5, 6, 7, 8, 9] rfl).app hK1
  generalize H1 = H at hP hS ⊢
  have hP : va_P (dC, dI) cls [(h0, .inr (12, [.int 0, .ref a_1, .ref a_3, .ref a_5, .int (-1), .int (-1), .int 0, .ref a_7, .ref a_9, .ref a_11, .ref a_13, .ref a_15, .ref a_17, .ref a_19, .ref a_21, .ref a_23, .int 0, .int 0, .null, .int 0, .int 45, .ref a_25, .ref a_27, .ref a_29, .ref a_31, .null])), (a_1, .inr (14, [.int 0, .ref tE, .int 0])), (a_3, .inr (14, [.int 0, .ref tE, .int 0])), (a_5, .inl (cA_6, 7, .inl (fun _ => 0))), (a_7, .inl (cA_8, 7, .inl (fun _ => 0))), (a_9, .inl (cA_10, 7, .inl (fun _ => 0))), (a_11, .inl (cA_12, 7, .inl (fun _ => 0))), (a_13, .inl (cA_14, 7, .inl (fun _ => 0))), (a_15, .inl (cA_16, 7, .inl (fun _ => 0))), (a_17, .inl (cA_18, 7, .inl (fun _ => 0))), (a_19, .inl (cA_20, 7, .inl (fun _ => 0))), (a_21, .inl (cA_22, 7, .inl (fun _ => 0))), (a_23, .inl (cA_24, 7, .inl (fun _ => 0))), (a_25, .inr (14, [.int 0, .ref tE, .int 0])), (a_27, .inr (14, [.int 0, .ref tE, .int 0])), (a_29, .inr (14, [.int 0, .ref tE, .int 0])), (a_31, .inr (14, [.int 0, .ref tE, .int 0])), (a_33, .inr (14, [.int 0, .ref tE, .int 0]))] H := hP
  have hD : va_D A [(h0, .inr (12, [.int 0, .ref a_1, .ref a_3, .ref a_5, .int (-1), .int (-1), .int 0, .ref a_7, .ref a_9, .ref a_11, .ref a_13, .ref a_15, .ref a_17, .ref a_19, .ref a_21, .ref a_23, .int 0, .int 0, .null, .int 0, .int 45, .ref a_25, .ref a_27, .ref a_29, .ref a_31, .null])), (a_1, .inr (14, [.int 0, .ref tE, .int 0])), (a_3, .inr (14, [.int 0, .ref tE, .int 0])), (a_5, .inl (cA_6, 7, .inl (fun _ => 0))), (a_7, .inl (cA_8, 7, .inl (fun _ => 0))), (a_9, .inl (cA_10, 7, .inl (fun _ => 0))), (a_11, .inl (cA_12, 7, .inl (fun _ => 0))), (a_13, .inl (cA_14, 7, .inl (fun _ => 0))), (a_15, .inl (cA_16, 7, .inl (fun _ => 0))), (a_17, .inl (cA_18, 7, .inl (fun _ => 0))), (a_19, .inl (cA_20, 7, .inl (fun _ => 0))), (a_21, .inl (cA_22, 7, .inl (fun _ => 0))), (a_23, .inl (cA_24, 7, .inl (fun _ => 0))), (a_25, .inr (14, [.int 0, .ref tE, .int 0])), (a_27, .inr (14, [.int 0, .ref tE, .int 0])), (a_29, .inr (14, [.int 0, .ref tE, .int 0])), (a_31, .inr (14, [.int 0, .ref tE, .int 0])), (a_33, .inr (14, [.int 0, .ref tE, .int 0]))] := hD
  have hK : va_K (dC, dI) cls [(cA_6, .int), (cA_8, .int), (cA_10, .int), (cA_12, .int), (cA_14, .int), (cA_16, .int), (cA_18, .int), (cA_20, .char), (cA_22, .boolean), (cA_24, .boolean)] s := hK
  refine W.widen (k := 17) (n := 91) (Nat.le_of_ble_eq_true rfl) (Nat.le_of_ble_eq_true rfl) ?_
  refine va_putF (D := (dC, dI)) (ci := 12) (v := .ref a_33) (ty := (.object "java/util/List")) (C := RX12) (T := TX12) (N := 26) hx hb hq i_X12 tyX12 tyX12_ok nmX12 hown hK hP hD hS 0 rfl rfl 25 (by decide) (hq _ q_1329) (fun _ h9 => h9) rfl hin rfl (by decide +kernel) rfl rfl (Nat.le_of_ble_eq_true rfl) dX12_init_174 (fun H locs hP hD hS => ?_)
  have hP : va_P (dC, dI) cls [(h0, .inr (12, [.int 0, .ref a_1, .ref a_3, .ref a_5, .int (-1), .int (-1), .int 0, .ref a_7, .ref a_9, .ref a_11, .ref a_13, .ref a_15, .ref a_17, .ref a_19, .ref a_21, .ref a_23, .int 0, .int 0, .null, .int 0, .int 45, .ref a_25, .ref a_27, .ref a_29, .ref a_31, .ref a_33])), (a_1, .inr (14, [.int 0, .ref tE, .int 0])), (a_3, .inr (14, [.int 0, .ref tE, .int 0])), (a_5, .inl (cA_6, 7, .inl (fun _ => 0))), (a_7, .inl (cA_8, 7, .inl (fun _ => 0))), (a_9, .inl (cA_10, 7, .inl (fun _ => 0))), (a_11, .inl (cA_12, 7, .inl (fun _ => 0))), (a_13, .inl (cA_14, 7, .inl (fun _ => 0))), (a_15, .inl (cA_16, 7, .inl (fun _ => 0))), (a_17, .inl (cA_18, 7, .inl (fun _ => 0))), (a_19, .inl (cA_20, 7, .inl (fun _ => 0))), (a_21, .inl (cA_22, 7, .inl (fun _ => 0))), (a_23, .inl (cA_24, 7, .inl (fun _ => 0))), (a_25, .inr (14, [.int 0, .ref tE, .int 0])), (a_27, .inr (14, [.int 0, .ref tE, .int 0])), (a_29, .inr (14, [.int 0, .ref tE, .int 0])), (a_31, .inr (14, [.int 0, .ref tE, .int 0])), (a_33, .inr (14, [.int 0, .ref tE, .int 0]))] H := hP
  have hD : va_D A [(h0, .inr (12, [.int 0, .ref a_1, .ref a_3, .ref a_5, .int (-1), .int (-1), .int 0, .ref a_7, .ref a_9, .ref a_11, .ref a_13, .ref a_15, .ref a_17, .ref a_19, .ref a_21, .ref a_23, .int 0, .int 0, .null, .int 0, .int 45, .ref a_25, .ref a_27, .ref a_29, .ref a_31, .ref a_33])), (a_1, .inr (14, [.int 0, .ref tE, .int 0])), (a_3, .inr (14, [.int 0, .ref tE, .int 0])), (a_5, .inl (cA_6, 7, .inl (fun _ => 0))), (a_7, .inl (cA_8, 7, .inl (fun _ => 0))), (a_9, .inl (cA_10, 7, .inl (fun _ => 0))), (a_11, .inl (cA_12, 7, .inl (fun _ => 0))), (a_13, .inl (cA_14, 7, .inl (fun _ => 0))), (a_15, .inl (cA_16, 7, .inl (fun _ => 0))), (a_17, .inl (cA_18, 7, .inl (fun _ => 0))), (a_19, .inl (cA_20, 7, .inl (fun _ => 0))), (a_21, .inl (cA_22, 7, .inl (fun _ => 0))), (a_23, .inl (cA_24, 7, .inl (fun _ => 0))), (a_25, .inr (14, [.int 0, .ref tE, .int 0])), (a_27, .inr (14, [.int 0, .ref tE, .int 0])), (a_29, .inr (14, [.int 0, .ref tE, .int 0])), (a_31, .inr (14, [.int 0, .ref tE, .int 0])), (a_33, .inr (14, [.int 0, .ref tE, .int 0]))] := hD
  refine lv_aload_n hx hb dX12_init_177 rfl (lv_at hl 0 rfl) ?_
  refine va_get (D := (dC, dI)) (ci := 12) (v := .ref a_5) (C := RX12) (T := TX12) (N := 26) hx hb hq i_X12 hown hK hP 0 rfl rfl 3 (by decide) (hq _ q_1307) (fun _ h9 => h9) rfl dX12_init_178 ?_
  refine lv_iconst (v := (-1)) hx hb dX12_init_181 (by decide) ?_
  have hPc := hP.sub (ws' := [(a_5, .inl (cA_6, 7, .inl (fun _ => 0)))]) [3] rfl
  have hKc := hK.sub (tys' := [(cA_6, .int)]) [0] rfl
  have hDc := hD.sub (ws' := [(a_5, .inl (cA_6, 7, .inl (fun _ => 0)))]) [3] (by decide) rfl
  have hFc := va_free (wc := [(a_5, .inl (cA_6, 7, .inl (fun _ => 0)))]) hD hS hA [3] rfl
  refine va_callv (va_runS (As := [.ref a_5, .int (-1)]) (rest := []) ⟨hx, hb, hml, hown, hq⟩ (c_fillI l hst tE adK adV dC dI a_5 cA_6 (fun _ => 0) (-1) H.size) (tcS 2 hq q_404 q_16 q_1300 q_403 rfl rfl (by decide +kernel) ⟨Nat.le_of_ble_eq_true rfl, Nat.le_of_ble_eq_true rfl⟩) (pre.S (pre.of hPc hDc hKc ham hS hFc)) rfl rfl hl.1 rfl (lv_room (Nat.le_of_ble_eq_true rfl)) dX12_init_182 ⟨Nat.le_of_ble_eq_true rfl, Nat.le_of_ble_eq_true rfl⟩) hS (fun q _ h => hFc q h) hFc (fun u t H1 locs ht hvm hw hB hz1 hk1 hS => ?_)
  obtain ⟨hP, hD⟩ := va_join (wr := [(h0, .inr (12, [.int 0, .ref a_1, .ref a_3, .ref a_5, .int (-1), .int (-1), .int 0, .ref a_7, .ref a_9, .ref a_11, .ref a_13, .ref a_15, .ref a_17, .ref a_19, .ref a_21, .ref a_23, .int 0, .int 0, .null, .int 0, .int 45, .ref a_25, .ref a_27, .ref a_29, .ref a_31, .ref a_33])), (a_1, .inr (14, [.int 0, .ref tE, .int 0])), (a_3, .inr (14, [.int 0, .ref tE, .int 0])), (a_7, .inl (cA_8, 7, .inl (fun _ => 0))), (a_9, .inl (cA_10, 7, .inl (fun _ => 0))), (a_11, .inl (cA_12, 7, .inl (fun _ => 0))), (a_13, .inl (cA_14, 7, .inl (fun _ => 0))), (a_15, .inl (cA_16, 7, .inl (fun _ => 0))), (a_17, .inl (cA_18, 7, .inl (fun _ => 0))), (a_19, .inl (cA_20, 7, .inl (fun _ => 0))), (a_21, .inl (cA_22, 7, .inl (fun _ => 0))), (a_23, .inl (cA_24, 7, .inl (fun _ => 0))), (a_25, .inr (14, [.int 0, .ref tE, .int 0])), (a_27, .inr (14, [.int 0, .ref tE, .int 0])), (a_29, .inr (14, [.int 0, .ref tE, .int 0])), (a_31, .inr (14, [.int 0, .ref tE, .int 0])), (a_33, .inr (14, [.int 0, .ref tE, .int 0]))]) (w1 := []) (wc := [(a_5, .inl (cA_6, 7, .inl (fun _ => 0)))]) hP hD [3] [0, 1, 2, 4, 5, 6, 7, 8, 9, 10, 11, 12, 13, 14, 15, 16, 17] rfl rfl (by decide) (by decide) hk1 hFc (fun k q h => by simp at h) ⟨fun i j p q h => by simp at h, fun k q h => by simp at h⟩
  generalize H1 = H at hP hS ⊢
  have hP : va_P (dC, dI) cls [(h0, .inr (12, [.int 0, .ref a_1, .ref a_3, .ref a_5, .int (-1), .int (-1), .int 0, .ref a_7, .ref a_9, .ref a_11, .ref a_13, .ref a_15, .ref a_17, .ref a_19, .ref a_21, .ref a_23, .int 0, .int 0, .null, .int 0, .int 45, .ref a_25, .ref a_27, .ref a_29, .ref a_31, .ref a_33])), (a_1, .inr (14, [.int 0, .ref tE, .int 0])), (a_3, .inr (14, [.int 0, .ref tE, .int 0])), (a_7, .inl (cA_8, 7, .inl (fun _ => 0))), (a_9, .inl (cA_10, 7, .inl (fun _ => 0))), (a_11, .inl (cA_12, 7, .inl (fun _ => 0))), (a_13, .inl (cA_14, 7, .inl (fun _ => 0))), (a_15, .inl (cA_16, 7, .inl (fun _ => 0))), (a_17, .inl (cA_18, 7, .inl (fun _ => 0))), (a_19, .inl (cA_20, 7, .inl (fun _ => 0))), (a_21, .inl (cA_22, 7, .inl (fun _ => 0))), (a_23, .inl (cA_24, 7, .inl (fun _ => 0))), (a_25, .inr (14, [.int 0, .ref tE, .int 0])), (a_27, .inr (14, [.int 0, .ref tE, .int 0])), (a_29, .inr (14, [.int 0, .ref tE, .int 0])), (a_31, .inr (14, [.int 0, .ref tE, .int 0])), (a_33, .inr (14, [.int 0, .ref tE, .int 0]))] H := hP
  have hD : va_D A [(h0, .inr (12, [.int 0, .ref a_1, .ref a_3, .ref a_5, .int (-1), .int (-1), .int 0, .ref a_7, .ref a_9, .ref a_11, .ref a_13, .ref a_15, .ref a_17, .ref a_19, .ref a_21, .ref a_23, .int 0, .int 0, .null, .int 0, .int 45, .ref a_25, .ref a_27, .ref a_29, .ref a_31, .ref a_33])), (a_1, .inr (14, [.int 0, .ref tE, .int 0])), (a_3, .inr (14, [.int 0, .ref tE, .int 0])), (a_7, .inl (cA_8, 7, .inl (fun _ => 0))), (a_9, .inl (cA_10, 7, .inl (fun _ => 0))), (a_11, .inl (cA_12, 7, .inl (fun _ => 0))), (a_13, .inl (cA_14, 7, .inl (fun _ => 0))), (a_15, .inl (cA_16, 7, .inl (fun _ => 0))), (a_17, .inl (cA_18, 7, .inl (fun _ => 0))), (a_19, .inl (cA_20, 7, .inl (fun _ => 0))), (a_21, .inl (cA_22, 7, .inl (fun _ => 0))), (a_23, .inl (cA_24, 7, .inl (fun _ => 0))), (a_25, .inr (14, [.int 0, .ref tE, .int 0])), (a_27, .inr (14, [.int 0, .ref tE, .int 0])), (a_29, .inr (14, [.int 0, .ref tE, .int 0])), (a_31, .inr (14, [.int 0, .ref tE, .int 0])), (a_33, .inr (14, [.int 0, .ref tE, .int 0]))] := hD
  have hK : va_K (dC, dI) cls [(cA_6, .int), (cA_8, .int), (cA_10, .int), (cA_12, .int), (cA_14, .int), (cA_16, .int), (cA_18, .int), (cA_20, .char), (cA_22, .boolean), (cA_24, .boolean)] s := hK
  refine W.widen (k := 17) (n := 91) (Nat.le_of_ble_eq_true rfl) (Nat.le_of_ble_eq_true rfl) ?_
  refine lv_aload_n hx hb dX12_init_185 rfl (lv_at hl 0 rfl) ?_
  refine va_get (D := (dC, dI)) (ci := 12) (v := .ref a_9) (C := RX12) (T := TX12) (N := 26) hx hb hq i_X12 hown hK hP 0 rfl rfl 8 (by decide) (hq _ q_1312) (fun _ h9 => h9) rfl dX12_init_186 ?_
  refine lv_iconst (v := (-1)) hx hb dX12_init_189 (by decide) ?_
  have hPc := hP.sub (ws' := [(a_9, .inl (cA_10, 7, .inl (fun _ => 0)))]) [4] rfl
  have hKc := hK.sub (tys' := [(cA_10, .int)]) [2] rfl
  have hDc := hD.sub (ws' := [(a_9, .inl (cA_10, 7, .inl (fun _ => 0)))]) [4] (by decide) rfl
  have hFc := va_free (wc := [(a_9, .inl (cA_10, 7, .inl (fun _ => 0)))]) hD hS hA [4] rfl
  refine va_callv (va_runS (As := [.ref a_9, .int (-1)]) (rest := []) ⟨hx, hb, hml, hown, hq⟩ (c_fillI l hst tE adK adV dC dI a_9 cA_10 (fun _ => 0) (-1) H.size) (tcS 2 hq q_404 q_16 q_1300 q_403 rfl rfl (by decide +kernel) ⟨Nat.le_of_ble_eq_true rfl, Nat.le_of_ble_eq_true rfl⟩) (pre.S (pre.of hPc hDc hKc ham hS hFc)) rfl rfl hl.1 rfl (lv_room (Nat.le_of_ble_eq_true rfl)) dX12_init_190 ⟨Nat.le_of_ble_eq_true rfl, Nat.le_of_ble_eq_true rfl⟩) hS (fun q _ h => hFc q h) hFc (fun u t H1 locs ht hvm hw hB hz1 hk1 hS => ?_)
  obtain ⟨hP, hD⟩ := va_join (wr := [(h0, .inr (12, [.int 0, .ref a_1, .ref a_3, .ref a_5, .int (-1), .int (-1), .int 0, .ref a_7, .ref a_9, .ref a_11, .ref a_13, .ref a_15, .ref a_17, .ref a_19, .ref a_21, .ref a_23, .int 0, .int 0, .null, .int 0, .int 45, .ref a_25, .ref a_27, .ref a_29, .ref a_31, .ref a_33])), (a_1, .inr (14, [.int 0, .ref tE, .int 0])), (a_3, .inr (14, [.int 0, .ref tE, .int 0])), (a_7, .inl (cA_8, 7, .inl (fun _ => 0))), (a_11, .inl (cA_12, 7, .inl (fun _ => 0))), (a_13, .inl (cA_14, 7, .inl (fun _ => 0))), (a_15, .inl (cA_16, 7, .inl (fun _ => 0))), (a_17, .inl (cA_18, 7, .inl (fun _ => 0))), (a_19, .inl (cA_20, 7, .inl (fun _ => 0))), (a_21, .inl (cA_22, 7, .inl (fun _ => 0))), (a_23, .inl (cA_24, 7, .inl (fun _ => 0))), (a_25, .inr (14, [.int 0, .ref tE, .int 0])), (a_27, .inr (14, [.int 0, .ref tE, .int 0])), (a_29, .inr (14, [.int 0, .ref tE, .int 0])), (a_31, .inr (14, [.int 0, .ref tE, .int 0])), (a_33, .inr (14, [.int 0, .ref tE, .int 0]))]) (w1 := []) (wc := [(a_9, .inl (cA_10, 7, .inl (fun _ => 0)))]) hP hD [4] [0, 1, 2, 3, 5, 6, 7, 8, 9, 10, 11, 12, 13, 14, 15, 16] rfl rfl (by decide) (by decide) hk1 hFc (fun k q h => by simp at h) ⟨fun i j p q h => by simp at h, fun k q h => by simp at h⟩
  generalize H1 = H at hP hS ⊢
  have hP : va_P (dC, dI) cls [(h0, .inr (12, [.int 0, .ref a_1, .ref a_3, .ref a_5, .int (-1), .int (-1), .int 0, .ref a_7, .ref a_9, .ref a_11, .ref a_13, .ref a_15, .ref a_17, .ref a_19, .ref a_21, .ref a_23, .int 0, .int 0, .null, .int 0, .int 45, .ref a_25, .ref a_27, .ref a_29, .ref a_31, .ref a_33])), (a_1, .inr (14, [.int 0, .ref tE, .int 0])), (a_3, .inr (14, [.int 0, .ref tE, .int 0])), (a_7, .inl (cA_8, 7, .inl (fun _ => 0))), (a_11, .inl (cA_12, 7, .inl (fun _ => 0))), (a_13, .inl (cA_14, 7, .inl (fun _ => 0))), (a_15, .inl (cA_16, 7, .inl (fun _ => 0))), (a_17, .inl (cA_18, 7, .inl (fun _ => 0))), (a_19, .inl (cA_20, 7, .inl (fun _ => 0))), (a_21, .inl (cA_22, 7, .inl (fun _ => 0))), (a_23, .inl (cA_24, 7, .inl (fun _ => 0))), (a_25, .inr (14, [.int 0, .ref tE, .int 0])), (a_27, .inr (14, [.int 0, .ref tE, .int 0])), (a_29, .inr (14, [.int 0, .ref tE, .int 0])), (a_31, .inr (14, [.int 0, .ref tE, .int 0])), (a_33, .inr (14, [.int 0, .ref tE, .int 0]))] H := hP
  have hD : va_D A [(h0, .inr (12, [.int 0, .ref a_1, .ref a_3, .ref a_5, .int (-1), .int (-1), .int 0, .ref a_7, .ref a_9, .ref a_11, .ref a_13, .ref a_15, .ref a_17, .ref a_19, .ref a_21, .ref a_23, .int 0, .int 0, .null, .int 0, .int 45, .ref a_25, .ref a_27, .ref a_29, .ref a_31, .ref a_33])), (a_1, .inr (14, [.int 0, .ref tE, .int 0])), (a_3, .inr (14, [.int 0, .ref tE, .int 0])), (a_7, .inl (cA_8, 7, .inl (fun _ => 0))), (a_11, .inl (cA_12, 7, .inl (fun _ => 0))), (a_13, .inl (cA_14, 7, .inl (fun _ => 0))), (a_15, .inl (cA_16, 7, .inl (fun _ => 0))), (a_17, .inl (cA_18, 7, .inl (fun _ => 0))), (a_19, .inl (cA_20, 7, .inl (fun _ => 0))), (a_21, .inl (cA_22, 7, .inl (fun _ => 0))), (a_23, .inl (cA_24, 7, .inl (fun _ => 0))), (a_25, .inr (14, [.int 0, .ref tE, .int 0])), (a_27, .inr (14, [.int 0, .ref tE, .int 0])), (a_29, .inr (14, [.int 0, .ref tE, .int 0])), (a_31, .inr (14, [.int 0, .ref tE, .int 0])), (a_33, .inr (14, [.int 0, .ref tE, .int 0]))] := hD
  have hK : va_K (dC, dI) cls [(cA_6, .int), (cA_8, .int), (cA_10, .int), (cA_12, .int), (cA_14, .int), (cA_16, .int), (cA_18, .int), (cA_20, .char), (cA_22, .boolean), (cA_24, .boolean)] s := hK
  refine W.widen (k := 17) (n := 91) (Nat.le_of_ble_eq_true rfl) (Nat.le_of_ble_eq_true rfl) ?_
  refine lv_aload_n hx hb dX12_init_193 rfl (lv_at hl 0 rfl) ?_
  refine va_get (D := (dC, dI)) (ci := 12) (v := .ref a_11) (C := RX12) (T := TX12) (N := 26) hx hb hq i_X12 hown hK hP 0 rfl rfl 9 (by decide) (hq _ q_1313) (fun _ h9 => h9) rfl dX12_init_194 ?_
  refine lv_iconst (v := (-1)) hx hb dX12_init_197 (by decide) ?_
  have hPc := hP.sub (ws' := [(a_11, .inl (cA_12, 7, .inl (fun _ => 0)))]) [4] rfl
  have hKc := hK.sub (tys' := [(cA_12, .int)]) [3] rfl
  have hDc := hD.sub (ws' := [(a_11, .inl (cA_12, 7, .inl (fun _ => 0)))]) [4] (by decide) rfl
  have hFc := va_free (wc := [(a_11, .inl (cA_12, 7, .inl (fun _ => 0)))]) hD hS hA [4] rfl
  refine va_callv (va_runS (As := [.ref a_11, .int (-1)]) (rest := []) ⟨hx, hb, hml, hown, hq⟩ (c_fillI l hst tE adK adV dC dI a_11 cA_12 (fun _ => 0) (-1) H.size) (tcS 2 hq q_404 q_16 q_1300 q_403 rfl rfl (by decide +kernel) ⟨Nat.le_of_ble_eq_true rfl, Nat.le_of_ble_eq_true rfl⟩) (pre.S (pre.of hPc hDc hKc ham hS hFc)) rfl rfl hl.1 rfl (lv_room (Nat.le_of_ble_eq_true rfl)) dX12_init_198 ⟨Nat.le_of_ble_eq_true rfl, Nat.le_of_ble_eq_true rfl⟩) hS (fun q _ h => hFc q h) hFc (fun u t H1 locs ht hvm hw hB hz1 hk1 hS => ?_)
  obtain ⟨hP, hD⟩ := va_join (wr := [(h0, .inr (12, [.int 0, .ref a_1, .ref a_3, .ref a_5, .int (-1), .int (-1), .int 0, .ref a_7, .ref a_9, .ref a_11, .ref a_13, .ref a_15, .ref a_17, .ref a_19, .ref a_21, .ref a_23, .int 0, .int 0, .null, .int 0, .int 45, .ref a_25, .ref a_27, .ref a_29, .ref a_31, .ref a_33])), (a_1, .inr (14, [.int 0, .ref tE, .int 0])), (a_3, .inr (14, [.int 0, .ref tE, .int 0])), (a_7, .inl (cA_8, 7, .inl (fun _ => 0))), (a_13, .inl (cA_14, 7, .inl (fun _ => 0))), (a_15, .inl (cA_16, 7, .inl (fun _ => 0))), (a_17, .inl (cA_18, 7, .inl (fun _ => 0))), (a_19, .inl (cA_20, 7, .inl (fun _ => 0))), (a_21, .inl (cA_22, 7, .inl (fun _ => 0))), (a_23, .inl (cA_24, 7, .inl (fun _ => 0))), (a_25, .inr (14, [.int 0, .ref tE, .int 0])), (a_27, .inr (14, [.int 0, .ref tE, .int 0])), (a_29, .inr (14, [.int 0, .ref tE, .int 0])), (a_31, .inr (14, [.int 0, .ref tE, .int 0])), (a_33, .inr (14, [.int 0, .ref tE, .int 0]))]) (w1 := []) (wc := [(a_11, .inl (cA_12, 7, .inl (fun _ => 0)))]) hP hD [4] [0, 1, 2, 3, 5, 6, 7, 8, 9, 10, 11, 12, 13, 14, 15] rfl rfl (by decide) (by decide) hk1 hFc (fun k q h => by simp at h) ⟨fun i j p q h => by simp at h, fun k q h => by simp at h⟩
  generalize H1 = H at hP hS ⊢
  have hP : va_P (dC, dI) cls [(h0, .inr (12, [.int 0, .ref a_1, .ref a_3, .ref a_5, .int (-1), .int (-1), .int 0, .ref a_7, .ref a_9, .ref a_11, .ref a_13, .ref a_15, .ref a_17, .ref a_19, .ref a_21, .ref a_23, .int 0, .int 0, .null, .int 0, .int 45, .ref a_25, .ref a_27, .ref a_29, .ref a_31, .ref a_33])), (a_1, .inr (14, [.int 0, .ref tE, .int 0])), (a_3, .inr (14, [.int 0, .ref tE, .int 0])), (a_7, .inl (cA_8, 7, .inl (fun _ => 0))), (a_13, .inl (cA_14, 7, .inl (fun _ => 0))), (a_15, .inl (cA_16, 7, .inl (fun _ => 0))), (a_17, .inl (cA_18, 7, .inl (fun _ => 0))), (a_19, .inl (cA_20, 7, .inl (fun _ => 0))), (a_21, .inl (cA_22, 7, .inl (fun _ => 0))), (a_23, .inl (cA_24, 7, .inl (fun _ => 0))), (a_25, .inr (14, [.int 0, .ref tE, .int 0])), (a_27, .inr (14, [.int 0, .ref tE, .int 0])), (a_29, .inr (14, [.int 0, .ref tE, .int 0])), (a_31, .inr (14, [.int 0, .ref tE, .int 0])), (a_33, .inr (14, [.int 0, .ref tE, .int 0]))] H := hP
  have hD : va_D A [(h0, .inr (12, [.int 0, .ref a_1, .ref a_3, .ref a_5, .int (-1), .int (-1), .int 0, .ref a_7, .ref a_9, .ref a_11, .ref a_13, .ref a_15, .ref a_17, .ref a_19, .ref a_21, .ref a_23, .int 0, .int 0, .null, .int 0, .int 45, .ref a_25, .ref a_27, .ref a_29, .ref a_31, .ref a_33])), (a_1, .inr (14, [.int 0, .ref tE, .int 0])), (a_3, .inr (14, [.int 0, .ref tE, .int 0])), (a_7, .inl (cA_8, 7, .inl (fun _ => 0))), (a_13, .inl (cA_14, 7, .inl (fun _ => 0))), (a_15, .inl (cA_16, 7, .inl (fun _ => 0))), (a_17, .inl (cA_18, 7, .inl (fun _ => 0))), (a_19, .inl (cA_20, 7, .inl (fun _ => 0))), (a_21, .inl (cA_22, 7, .inl (fun _ => 0))), (a_23, .inl (cA_24, 7, .inl (fun _ => 0))), (a_25, .inr (14, [.int 0, .ref tE, .int 0])), (a_27, .inr (14, [.int 0, .ref tE, .int 0])), (a_29, .inr (14, [.int 0, .ref tE, .int 0])), (a_31, .inr (14, [.int 0, .ref tE, .int 0])), (a_33, .inr (14, [.int 0, .ref tE, .int 0]))] := hD
  have hK : va_K (dC, dI) cls [(cA_6, .int), (cA_8, .int), (cA_10, .int), (cA_12, .int), (cA_14, .int), (cA_16, .int), (cA_18, .int), (cA_20, .char), (cA_22, .boolean), (cA_24, .boolean)] s := hK
  refine W.widen (k := 17) (n := 91) (Nat.le_of_ble_eq_true rfl) (Nat.le_of_ble_eq_true rfl) ?_
  refine lv_aload_n hx hb dX12_init_201 rfl (lv_at hl 0 rfl) ?_
  refine va_get (D := (dC, dI)) (ci := 12) (v := .ref a_13) (C := RX12) (T := TX12) (N := 26) hx hb hq i_X12 hown hK hP 0 rfl rfl 10 (by decide) (hq _ q_1314) (fun _ h9 => h9) rfl dX12_init_202 ?_
  refine lv_iconst (v := (-1)) hx hb dX12_init_205 (by decide) ?_
  have hPc := hP.sub (ws' := [(a_13, .inl (cA_14, 7, .inl (fun _ => 0)))]) [4] rfl
  have hKc := hK.sub (tys' := [(cA_14, .int)]) [4] rfl
  have hDc := hD.sub (ws' := [(a_13, .inl (cA_14, 7, .inl (fun _ => 0)))]) [4] (by decide) rfl
  have hFc := va_free (wc := [(a_13, .inl (cA_14, 7, .inl (fun _ => 0)))]) hD hS hA [4] rfl
  refine va_callv (va_runS (As := [.ref a_13, .int (-1)]) (rest := []) ⟨hx, hb, hml, hown, hq⟩ (c_fillI l hst tE adK adV dC dI a_13 cA_14 (fun _ => 0) (-1) H.size) (tcS 2 hq q_404 q_16 q_1300 q_403 rfl rfl (by decide +kernel) ⟨Nat.le_of_ble_eq_true rfl, Nat.le_of_ble_eq_true rfl⟩) (pre.S (pre.of hPc hDc hKc ham hS hFc)) rfl rfl hl.1 rfl (lv_room (Nat.le_of_ble_eq_true rfl)) dX12_init_206 ⟨Nat.le_of_ble_eq_true rfl, Nat.le_of_ble_eq_true rfl⟩) hS (fun q _ h => hFc q h) hFc (fun u t H1 locs ht hvm hw hB hz1 hk1 hS => ?_)
  obtain ⟨hP, hD⟩ := va_join (wr := [(h0, .inr (12, [.int 0, .ref a_1, .ref a_3, .ref a_5, .int (-1), .int (-1), .int 0, .ref a_7, .ref a_9, .ref a_11, .ref a_13, .ref a_15, .ref a_17, .ref a_19, .ref a_21, .ref a_23, .int 0, .int 0, .null, .int 0, .int 45, .ref a_25, .ref a_27, .ref a_29, .ref a_31, .ref a_33])), (a_1, .inr (14, [.int 0, .ref tE, .int 0])), (a_3, .inr (14, [.int 0, .ref tE, .int 0])), (a_7, .inl (cA_8, 7, .inl (fun _ => 0))), (a_15, .inl (cA_16, 7, .inl (fun _ => 0))), (a_17, .inl (cA_18, 7, .inl (fun _ => 0))), (a_19, .inl (cA_20, 7, .inl (fun _ => 0))), (a_21, .inl (cA_22, 7, .inl (fun _ => 0))), (a_23, .inl (cA_24, 7, .inl (fun _ => 0))), (a_25, .inr (14, [.int 0, .ref tE, .int 0])), (a_27, .inr (14, [.int 0, .ref tE, .int 0])), (a_29, .inr (14, [.int 0, .ref tE, .int 0])), (a_31, .inr (14, [.int 0, .ref tE, .int 0])), (a_33, .inr (14, [.int 0, .ref tE, .int 0]))]) (w1 := []) (wc := [(a_13, .inl (cA_14, 7, .inl (fun _ => 0)))]) hP hD [4] [0, 1, 2, 3, 5, 6, 7, 8, 9, 10, 11, 12, 13, 14] rfl rfl (by decide) (by decide) hk1 hFc (fun k q h => by simp at h) ⟨fun i j p q h => by simp at h, fun k q h => by simp at h⟩
  generalize H1 = H at hP hS ⊢
  have hP : va_P (dC, dI) cls [(h0, .inr (12, [.int 0, .ref a_1, .ref a_3, .ref a_5, .int (-1), .int (-1), .int 0, .ref a_7, .ref a_9, .ref a_11, .ref a_13, .ref a_15, .ref a_17, .ref a_19, .ref a_21, .ref a_23, .int 0, .int 0, .null, .int 0, .int 45, .ref a_25, .ref a_27, .ref a_29, .ref a_31, .ref a_33])), (a_1, .inr (14, [.int 0, .ref tE, .int 0])), (a_3, .inr (14, [.int 0, .ref tE, .int 0])), (a_7, .inl (cA_8, 7, .inl (fun _ => 0))), (a_15, .inl (cA_16, 7, .inl (fun _ => 0))), (a_17, .inl (cA_18, 7, .inl (fun _ => 0))), (a_19, .inl (cA_20, 7, .inl (fun _ => 0))), (a_21, .inl (cA_22, 7, .inl (fun _ => 0))), (a_23, .inl (cA_24, 7, .inl (fun _ => 0))), (a_25, .inr (14, [.int 0, .ref tE, .int 0])), (a_27, .inr (14, [.int 0, .ref tE, .int 0])), (a_29, .inr (14, [.int 0, .ref tE, .int 0])), (a_31, .inr (14, [.int 0, .ref tE, .int 0])), (a_33, .inr (14, [.int 0, .ref tE, .int 0]))] H := hP
  have hD : va_D A [(h0, .inr (12, [.int 0, .ref a_1, .ref a_3, .ref a_5, .int (-1), .int (-1), .int 0, .ref a_7, .ref a_9, .ref a_11, .ref a_13, .ref a_15, .ref a_17, .ref a_19, .ref a_21, .ref a_23, .int 0, .int 0, .null, .int 0, .int 45, .ref a_25, .ref a_27, .ref a_29, .ref a_31, .ref a_33])), (a_1, .inr (14, [.int 0, .ref tE, .int 0])), (a_3, .inr (14, [.int 0, .ref tE, .int 0])), (a_7, .inl (cA_8, 7, .inl (fun _ => 0))), (a_15, .inl (cA_16, 7, .inl (fun _ => 0))), (a_17, .inl (cA_18, 7, .inl (fun _ => 0))), (a_19, .inl (cA_20, 7, .inl (fun _ => 0))), (a_21, .inl (cA_22, 7, .inl (fun _ => 0))), (a_23, .inl (cA_24, 7, .inl (fun _ => 0))), (a_25, .inr (14, [.int 0, .ref tE, .int 0])), (a_27, .inr (14, [.int 0, .ref tE, .int 0])), (a_29, .inr (14, [.int 0, .ref tE, .int 0])), (a_31, .inr (14, [.int 0, .ref tE, .int 0])), (a_33, .inr (14, [.int 0, .ref tE, .int 0]))] := hD
  have hK : va_K (dC, dI) cls [(cA_6, .int), (cA_8, .int), (cA_10, .int), (cA_12, .int), (cA_14, .int), (cA_16, .int), (cA_18, .int), (cA_20, .char), (cA_22, .boolean), (cA_24, .boolean)] s := hK
  refine W.widen (k := 17) (n := 91) (Nat.le_of_ble_eq_true rfl) (Nat.le_of_ble_eq_true rfl) ?_
  refine lv_aload_n hx hb dX12_init_209 rfl (lv_at hl 0 rfl) ?_
  refine va_get (D := (dC, dI)) (ci := 12) (v := .ref a_15) (C := RX12) (T := TX12) (N := 26) hx hb hq i_X12 hown hK hP 0 rfl rfl 11 (by decide) (hq _ q_1315) (fun _ h9 => h9) rfl dX12_init_210 ?_
  refine lv_iconst (v := (-1)) hx hb dX12_init_213 (by decide) ?_
  have hPc := hP.sub (ws' := [(a_15, .inl (cA_16, 7, .inl (fun _ => 0)))]) [4] rfl
  have hKc := hK.sub (tys' := [(cA_16, .int)]) [5] rfl
  have hDc := hD.sub (ws' := [(a_15, .inl (cA_16, 7, .inl (fun _ => 0)))]) [4] (by decide) rfl
  have hFc := va_free (wc := [(a_15, .inl (cA_16, 7, .inl (fun _ => 0)))]) hD hS hA [4] rfl
  refine va_callv (va_runS (As := [.ref a_15, .int (-1)]) (rest := []) ⟨hx, hb, hml, hown, hq⟩ (c_fillI l hst tE adK adV dC dI a_15 cA_16 (fun _ => 0) (-1) H.size) (tcS 2 hq q_404 q_16 q_1300 q_403 rfl rfl (by decide +kernel) ⟨Nat.le_of_ble_eq_true rfl, Nat.le_of_ble_eq_true rfl⟩) (pre.S (pre.of hPc hDc hKc ham hS hFc)) rfl rfl hl.1 rfl (lv_room (Nat.le_of_ble_eq_true rfl)) dX12_init_214 ⟨Nat.le_of_ble_eq_true rfl, Nat.le_of_ble_eq_true rfl⟩) hS (fun q _ h => hFc q h) hFc (fun u t H1 locs ht hvm hw hB hz1 hk1 hS => ?_)
  obtain ⟨hP, hD⟩ := va_join (wr := [(h0, .inr (12, [.int 0, .ref a_1, .ref a_3, .ref a_5, .int (-1), .int (-1), .int 0, .ref a_7, .ref a_9, .ref a_11, .ref a_13, .ref a_15, .ref a_17, .ref a_19, .ref a_21, .ref a_23, .int 0, .int 0, .null, .int 0, .int 45, .ref a_25, .ref a_27, .ref a_29, .ref a_31, .ref a_33])), (a_1, .inr (14, [.int 0, .ref tE, .int 0])), (a_3, .inr (14, [.int 0, .ref tE, .int 0])), (a_7, .inl (cA_8, 7, .inl (fun _ => 0))), (a_17, .inl (cA_18, 7, .inl (fun _ => 0))), (a_19, .inl (cA_20, 7, .inl (fun _ => 0))), (a_21, .inl (cA_22, 7, .inl (fun _ => 0))), (a_23, .inl (cA_24, 7, .inl (fun _ => 0))), (a_25, .inr (14, [.int 0, .ref tE, .int 0])), (a_27, .inr (14, [.int 0, .ref tE, .int 0])), (a_29, .inr (14, [.int 0, .ref tE, .int 0])), (a_31, .inr (14, [.int 0, .ref tE, .int 0])), (a_33, .inr (14, [.int 0, .ref tE, .int 0]))]) (w1 := []) (wc := [(a_15, .inl (cA_16, 7, .inl (fun _ => 0)))]) hP hD [4] [0, 1, 2, 3, 5, 6, 7, 8, 9, 10, 11, 12, 13] rfl rfl (by decide) (by decide) hk1 hFc (fun k q h => by simp at h) ⟨fun i j p q h => by simp at h, fun k q h => by simp at h⟩
  generalize H1 = H at hP hS ⊢
  have hP : va_P (dC, dI) cls [(h0, .inr (12, [.int 0, .ref a_1, .ref a_3, .ref a_5, .int (-1), .int (-1), .int 0, .ref a_7, .ref a_9, .ref a_11, .ref a_13, .ref a_15, .ref a_17, .ref a_19, .ref a_21, .ref a_23, .int 0, .int 0, .null, .int 0, .int 45, .ref a_25, .ref a_27, .ref a_29, .ref a_31, .ref a_33])), (a_1, .inr (14, [.int 0, .ref tE, .int 0])), (a_3, .inr (14, [.int 0, .ref tE, .int 0])), (a_7, .inl (cA_8, 7, .inl (fun _ => 0))), (a_17, .inl (cA_18, 7, .inl (fun _ => 0))), (a_19, .inl (cA_20, 7, .inl (fun _ => 0))), (a_21, .inl (cA_22, 7, .inl (fun _ => 0))), (a_23, .inl (cA_24, 7, .inl (fun _ => 0))), (a_25, .inr (14, [.int 0, .ref tE, .int 0])), (a_27, .inr (14, [.int 0, .ref tE, .int 0])), (a_29, .inr (14, [.int 0, .ref tE, .int 0])), (a_31, .inr (14, [.int 0, .ref tE, .int 0])), (a_33, .inr (14, [.int 0, .ref tE, .int 0]))] H := hP
  have hD : va_D A [(h0, .inr (12, [.int 0, .ref a_1, .ref a_3, .ref a_5, .int (-1), .int (-1), .int 0, .ref a_7, .ref a_9, .ref a_11, .ref a_13, .ref a_15, .ref a_17, .ref a_19, .ref a_21, .ref a_23, .int 0, .int 0, .null, .int 0, .int 45, .ref a_25, .ref a_27, .ref a_29, .ref a_31, .ref a_33])), (a_1, .inr (14, [.int 0, .ref tE, .int 0])), (a_3, .inr (14, [.int 0, .ref tE, .int 0])), (a_7, .inl (cA_8, 7, .inl (fun _ => 0))), (a_17, .inl (cA_18, 7, .inl (fun _ => 0))), (a_19, .inl (cA_20, 7, .inl (fun _ => 0))), (a_21, .inl (cA_22, 7, .inl (fun _ => 0))), (a_23, .inl (cA_24, 7, .inl (fun _ => 0))), (a_25, .inr (14, [.int 0, .ref tE, .int 0])), (a_27, .inr (14, [.int 0, .ref tE, .int 0])), (a_29, .inr (14, [.int 0, .ref tE, .int 0])), (a_31, .inr (14, [.int 0, .ref tE, .int 0])), (a_33, .inr (14, [.int 0, .ref tE, .int 0]))] := hD
  have hK : va_K (dC, dI) cls [(cA_6, .int), (cA_8, .int), (cA_10, .int), (cA_12, .int), (cA_14, .int), (cA_16, .int), (cA_18, .int), (cA_20, .char), (cA_22, .boolean), (cA_24, .boolean)] s := hK
  refine W.widen (k := 17) (n := 91) (Nat.le_of_ble_eq_true rfl) (Nat.le_of_ble_eq_true rfl) ?_
  refine lv_aload_n hx hb dX12_init_217 rfl (lv_at hl 0 rfl) ?_
  refine va_get (D := (dC, dI)) (ci := 12) (v := .ref a_19) (C := RX12) (T := TX12) (N := 26) hx hb hq i_X12 hown hK hP 0 rfl rfl 13 (by decide) (hq _ q_1317) (fun _ h9 => h9) rfl dX12_init_218 ?_
  refine lv_bipush (v := 45) hx hb dX12_init_221 (by decide) ?_
  have hPc := hP.sub (ws' := [(a_19, .inl (cA_20, 7, .inl (fun _ => 0)))]) [5] rfl
  have hKc := hK.sub (tys' := [(cA_20, .char)]) [7] rfl
  have hDc := hD.sub (ws' := [(a_19, .inl (cA_20, 7, .inl (fun _ => 0)))]) [5] (by decide) rfl
  have hFc := va_free (wc := [(a_19, .inl (cA_20, 7, .inl (fun _ => 0)))]) hD hS hA [5] rfl
  refine va_callv (va_runS (As := [.ref a_19, .int 45]) (rest := []) ⟨hx, hb, hml, hown, hq⟩ (c_fillC l hst tE adK adV dC dI a_19 cA_20 (fun _ => 0) 45 H.size) (tcS 2 hq q_1303 q_16 q_1301 q_1302 rfl rfl (by decide +kernel) ⟨Nat.le_of_ble_eq_true rfl, Nat.le_of_ble_eq_true rfl⟩) (pre.S (pre.of hPc hDc hKc ham hS hFc)) rfl rfl hl.1 rfl (lv_room (Nat.le_of_ble_eq_true rfl)) dX12_init_223 ⟨Nat.le_of_ble_eq_true rfl, Nat.le_of_ble_eq_true rfl⟩) hS (fun q _ h => hFc q h) hFc (fun u t H1 locs ht hvm hw hB hz1 hk1 hS => ?_)
  obtain ⟨hP, hD⟩ := va_join (wr := [(h0, .inr (12, [.int 0, .ref a_1, .ref a_3, .ref a_5, .int (-1), .int (-1), .int 0, .ref a_7, .ref a_9, .ref a_11, .ref a_13, .ref a_15, .ref a_17, .ref a_19, .ref a_21, .ref a_23, .int 0, .int 0, .null, .int 0, .int 45, .ref a_25, .ref a_27, .ref a_29, .ref a_31, .ref a_33])), (a_1, .inr (14, [.int 0, .ref tE, .int 0])), (a_3, .inr (14, [.int 0, .ref tE, .int 0])), (a_7, .inl (cA_8, 7, .inl (fun _ => 0))), (a_17, .inl (cA_18, 7, .inl (fun _ => 0))), (a_21, .inl (cA_22, 7, .inl (fun _ => 0))), (a_23, .inl (cA_24, 7, .inl (fun _ => 0))), (a_25, .inr (14, [.int 0, .ref tE, .int 0])), (a_27, .inr (14, [.int 0, .ref tE, .int 0])), (a_29, .inr (14, [.int 0, .ref tE, .int 0])), (a_31, .inr (14, [.int 0, .ref tE, .int 0])), (a_33, .inr (14, [.int 0, .ref tE, .int 0]))]) (w1 := []) (wc := [(a_19, .inl (cA_20, 7, .inl (fun _ => 0)))]) hP hD [5] [0, 1, 2, 3, 4, 6, 7, 8, 9, 10, 11, 12] rfl rfl (by decide) (by decide) hk1 hFc (fun k q h => by simp at h) ⟨fun i j p q h => by simp at h, fun k q h => by simp at h⟩
  generalize H1 = H at hP hS ⊢
  have hP : va_P (dC, dI) cls [(h0, .inr (12, [.int 0, .ref a_1, .ref a_3, .ref a_5, .int (-1), .int (-1), .int 0, .ref a_7, .ref a_9, .ref a_11, .ref a_13, .ref a_15, .ref a_17, .ref a_19, .ref a_21, .ref a_23, .int 0, .int 0, .null, .int 0, .int 45, .ref a_25, .ref a_27, .ref a_29, .ref a_31, .ref a_33])), (a_1, .inr (14, [.int 0, .ref tE, .int 0])), (a_3, .inr (14, [.int 0, .ref tE, .int 0])), (a_7, .inl (cA_8, 7, .inl (fun _ => 0))), (a_17, .inl (cA_18, 7, .inl (fun _ => 0))), (a_21, .inl (cA_22, 7, .inl (fun _ => 0))), (a_23, .inl (cA_24, 7, .inl (fun _ => 0))), (a_25, .inr (14, [.int 0, .ref tE, .int 0])), (a_27, .inr (14, [.int 0, .ref tE, .int 0])), (a_29, .inr (14, [.int 0, .ref tE, .int 0])), (a_31, .inr (14, [.int 0, .ref tE, .int 0])), (a_33, .inr (14, [.int 0, .ref tE, .int 0]))] H := hP
  have hD : va_D A [(h0, .inr (12, [.int 0, .ref a_1, .ref a_3, .ref a_5, .int (-1), .int (-1), .int 0, .ref a_7, .ref a_9, .ref a_11, .ref a_13, .ref a_15, .ref a_17, .ref a_19, .ref a_21, .ref a_23, .int 0, .int 0, .null, .int 0, .int 45, .ref a_25, .ref a_27, .ref a_29, .ref a_31, .ref a_33])), (a_1, .inr (14, [.int 0, .ref tE, .int 0])), (a_3, .inr (14, [.int 0, .ref tE, .int 0])), (a_7, .inl (cA_8, 7, .inl (fun _ => 0))), (a_17, .inl (cA_18, 7, .inl (fun _ => 0))), (a_21, .inl (cA_22, 7, .inl (fun _ => 0))), (a_23, .inl (cA_24, 7, .inl (fun _ => 0))), (a_25, .inr (14, [.int 0, .ref tE, .int 0])), (a_27, .inr (14, [.int 0, .ref tE, .int 0])), (a_29, .inr (14, [.int 0, .ref tE, .int 0])), (a_31, .inr (14, [.int 0, .ref tE, .int 0])), (a_33, .inr (14, [.int 0, .ref tE, .int 0]))] := hD
  have hK : va_K (dC, dI) cls [(cA_6, .int), (cA_8, .int), (cA_10, .int), (cA_12, .int), (cA_14, .int), (cA_16, .int), (cA_18, .int), (cA_20, .char), (cA_22, .boolean), (cA_24, .boolean)] s := hK
  refine W.widen (k := 17) (n := 91) (Nat.le_of_ble_eq_true rfl) (Nat.le_of_ble_eq_true rfl) ?_
  refine W.widen (k := 17) (n := 91) (Nat.le_of_ble_eq_true rfl) (Nat.le_of_ble_eq_true rfl) ?_
  have hP9 := hP.sub (ws' := [(h0, .inr (12, [.int 0, .ref a_1, .ref a_3, .ref a_5, .int (-1), .int (-1), .int 0, .ref a_7, .ref a_9, .ref a_11, .ref a_13, .ref a_15, .ref a_17, .ref a_19, .ref a_21, .ref a_23, .int 0, .int 0, .null, .int 0, .int 45, .ref a_25, .ref a_27, .ref a_29, .ref a_31, .ref a_33])), (a_1, .inr (14, [.int 0, .ref tE, .int 0])), (a_3, .inr (14, [.int 0, .ref tE, .int 0]))]) [0, 1, 2] rfl
  have hD9 := hD.sub (ws' := [(h0, .inr (12, [.int 0, .ref a_1, .ref a_3, .ref a_5, .int (-1), .int (-1), .int 0, .ref a_7, .ref a_9, .ref a_11, .ref a_13, .ref a_15, .ref a_17, .ref a_19, .ref a_21, .ref a_23, .int 0, .int 0, .null, .int 0, .int 45, .ref a_25, .ref a_27, .ref a_29, .ref a_31, .ref a_33])), (a_1, .inr (14, [.int 0, .ref tE, .int 0])), (a_3, .inr (14, [.int 0, .ref tE, .int 0]))]) [0, 1, 2] (by decide) rfl
  have hK9 := hK.sub (tys' := []) [] rfl
  exact W.vret hx hb hr (fun t ht hW => ⟨⟨(), rfl, trivial, ⟨a_1, a_3, a_5, a_7, a_9, a_11, a_13, a_15, a_17, a_19, a_21, a_23, a_25, a_27, a_29, a_31, a_33, by rw [ht]; exact hP9, va_K.moved hW.alike hK9, hD9⟩⟩, hS.F ht⟩) hS.2.2 dX12_init_226
end
