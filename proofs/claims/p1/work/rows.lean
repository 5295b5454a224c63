section
/-! ===== BEGIN words of one list among another's, by their places ===== -/
theorem goodIn_r {big : List Cond} (ws : List Cond) (ps : List Nat) (hp : ws = ps.filterMap (fun i => big[i]?)) (h : ws.all goodWord = true) : GoodIn big ws := by
  intro w hw
  have h1 := List.all_eq_true.mp h w hw
  rw [hp] at hw
  obtain ⟨i, -, hi⟩ := List.mem_filterMap.mp hw
  have hm : w ∈ big := by first | exact List.mem_of_getElem? hi | exact List.getElem?_mem hi
  exact ⟨hm, good_of_word h1⟩
theorem goodIn_app {big a b : List Cond} (ha : GoodIn big a) (hb : GoodIn big b) : GoodIn big (a ++ b) := fun w h => (List.mem_append.mp h).elim (ha w) (hb w)
theorem goodIn_ca {big a b : List Cond} {c : Cond} (ha : GoodIn big (c :: a)) (hb : GoodIn big b) : GoodIn big (c :: (a ++ b)) := fun w h => (List.mem_cons.mp h).elim (fun e => ha w (List.mem_cons.mpr (Or.inl e))) (fun h => (List.mem_append.mp h).elim (fun h => ha w (List.mem_cons.mpr (Or.inr h))) (hb w))
theorem goodIn_sub {big ws : List Cond} (hm : ∀ w ∈ ws, w ∈ big) (h : ws.all goodWord = true) : GoodIn big ws := fun w hw => ⟨hm w hw, good_of_word (List.all_eq_true.mp h w hw)⟩
/-! ===== END ===== -/

/-! ===== BEGIN exceptions that leave a method, and their catching by the caller (launches without stack traces) ===== -/
section VXA
/-! The laws vx_back, vx_callV, vx_callS, vx_callSW, vx_throw0, vx_throwS follow proofs of the library, with one case more: JvmDerived/Free/Laws.lean (Back.of_free), Shelf42/LK1.lean (callV, callS), Shelf/KitTraced.lean (throwNew0V, throwNewS). -/
/-- where a method has thrown q: the class by its name, the cell, what was written, the world -/
def vx_T (XC : String → State → State → Prop) (st : State) (q : Addr) (t : State) (mc ms : Nat) (free : Addr → Prop) : Prop :=
  ∃ (E : String) (ce : Cell) (L : List Loc), XC E st t ∧ t.heap[q]? = some ce ∧ ce.vm = .none ∧ st.vm.findClass E = some ce.cls ∧ st.WarmedH t.vm ∧ st.sameButNew ({ t with vm := st.vm } : State) L mc ms ∧ ∀ z ∈ L, free z.base
def vx_Q (Qc : Array Value → State → Outcome → State → Prop) (XC : String → State → State → Prop) (mc ms : Nat) (free : Addr → Prop) : Array Value → State → Outcome → State → Prop := fun a st o t =>
  (Qc a st o t ∧ ∃ L, FrameEnd st o t L mc ms ∧ ∀ q ∈ L, free q.base) ∨ ∃ q, o = .threw q ∧ vx_T XC st q t mc ms free
/-- a callee that returns or throws -/
def vx_Met (l : Launch) (y : MethodName) (ws : List Cond) (rm : Room) (Pc : Array Value → State → Prop) (Qc : Array Value → State → Outcome → State → Prop) (XC : String → State → State → Prop) (mc ms : Nat) (free : Addr → Prop) : Prop :=
  MetFree l y (headSpec ws rm) Pc (fun _ _ _ _ _ => True) (vx_Q Qc XC mc ms free)
def vx_Post (XC : String → State → State → Prop) (mc ms : Nat) (free : Addr → Prop) : Pt → Array Value → Addr → Pt → Prop := fun A a q B =>
  ∃ (g : JFrame) (mk : MethodId) (t : State) (L : List Loc) (E : String) (ce : Cell), B.U.heap = t.heap ∧ B.U.vm = t.vm ∧ XC E (A.U.calling g mk a) t ∧ t.heap[q]? = some ce ∧ ce.vm = .none ∧ A.U.vm.findClass E = some ce.cls ∧ B.locs = A.locs ++ L ∧ (∀ z ∈ L, free z.base) ∧ B.cells = A.cells + mc ∧ B.slots = A.slots + ms
def vx_Back (l : Launch) (R : Room) (p : Program) (e : Env) (below : List Frame) (s : State) (sargs : Array Value) (y : MethodName) (len W9 : Nat)
    (Pre : Pt → Array Value → Prop) (Post : Pt → Array Value → Option Value → Pt → Prop) (PostX : Pt → Array Value → Addr → Pt → Prop) : Prop :=
  ∀ (m : MethodId) (meth : Method) (c : Code) (A : Pt) (g : JFrame) (ig : Instr) (mk : MethodId) (a : Array Value),
    Stand p l e R s m sargs below meth c A.U A.locs A.cells A.slots → g.method = m → g.locals.size = c.maxLocals → decode c.code g.pc = .ok (ig, len) →
    2 * g.monitorRoom + (g.stack.map fun v => v.category).sum ≤ W9 → A.U.methodNamed? y = some mk → Pre A a →
    (∃ (v : Option Value) (B : Pt), Stand p l e R s m sargs below meth c B.U B.locs B.cells B.slots ∧ Post A a v B ∧
      Steps p.tables e below (doInvoke e (A.U.setTop g) [] mk a).1 (B.U.setTop { g with pc := g.pc + len, stack := v.toList ++ g.stack })) ∨
    (∃ (q : Addr) (B : Pt), Stand p l e R s m sargs below meth c B.U B.locs B.cells B.slots ∧ PostX A a q B ∧
      Steps p.tables e below (doInvoke e (A.U.setTop g) [] mk a).1 ((B.U.setTop g).pushFrame (.throwing q)))
section Payer
variable {l : Launch} {R : Room} {p : Program} {e : Env} {below : List Frame} {s : State} {sargs : Array Value} {y : MethodName} {len W9 : Nat}
theorem vx_back {ws : List Cond} {rm : Room} {Pc : Array Value → State → Prop} {Qc : Array Value → State → Outcome → State → Prop} {XC : String → State → State → Prop} {mc ms : Nat} {free : Addr → Prop} {bytes : ByteArray} {maxL : Nat} {ret : Option FieldType}
    (hM : vx_Met l y ws rm Pc Qc XC mc ms free) (hblind : FrameBlind Pc) (hrc : rm.cells = mc) (hrs : rm.slots = ms)
    (hframes : rm.frames + 1 ≤ R.frames) (hlocals : W9 + (maxL + 11) + rm.locals ≤ R.locals)
    (hws : ∀ w ∈ ws, ∀ a' U, s.WarmedH U.vm → w.before a' U = true) (hcode : Cond.code y bytes maxL ret ∈ ws) (hinit : ∀ a' U, s.WarmedH U.vm → (Cond.initialized y.cls).before a' U = true) :
    vx_Back l R p e below s sargs y len W9 (PreOf R mc ms Pc) (PostOf Qc mc ms free) (vx_Post XC mc ms free) := by
  intro m meth c A g ig mk a X hg hsize hdg hW hn hp
  have h1 : (headSpec ws rm).pre.before a A.U = true := atoms_intro fun w hw => hws w hw _ _ X.warmed
  have h2 : (Cond.code y bytes maxL ret).before a A.U = true := hws _ hcode _ _ X.warmed
  have h3 : (Cond.initialized y.cls).before a A.U = true := hinit _ _ X.warmed
  have h4 : A.cells + (headSpec ws rm).room.cells ≤ R.cells := by rw [show (headSpec ws rm).room.cells = mc from hrc]; exact hp.1
  have h5 : A.slots + (headSpec ws rm).room.slots ≤ R.slots := by rw [show (headSpec ws rm).room.slots = ms from hrs]; exact hp.2.1
  have hPc : Pc a (A.U.calling g mk a) := hblind _ _ _ _ hp.2.2
  obtain ⟨U, Ls, c0, s0⟩ := A
  dsimp only [Pt.U, Pt.locs, Pt.cells, Pt.slots] at h1 h2 h3 h4 h5 X hn hPc ⊢
  obtain ⟨methY, cY, hmY, hcY, -, hlY, -, -, -, -⟩ := Cond.code_spec hn h2
  obtain ⟨kY, hkY, -⟩ := className_of_methodNamed hn
  have hinitY : kY.init = .initialized := Cond.initialized_spec (findClass_of_methodNamed hn) hkY h3
  have h : At U g.method c below := by rw [hg]; exact X.here
  have hlocals9 : W9 + (maxL + 11) + (headSpec ws rm).room.locals ≤ R.locals := hlocals
  have happ : (headSpec ws rm).appliesLoose y e.platform (U.calling g mk a) = true :=
    Spec.appliesLoose_calling (g := g) h hdg hn hkY hinitY
      (X.room_calling (g := g) (R' := (headSpec ws rm).room) hsize hmY hcY hframes (by rw [hlY]; omega) h4 h5) h1
  obtain ⟨mid, hmid⟩ := h.above
  have hfr : (U.setTop g).frames = (.java g :: mid) ++ below := by rw [State.frames_setTop' g h.top, hmid]; rfl
  obtain ⟨o, s₂, hsteps, -, hend, hq⟩ := Steps.callFree hM p X.admits X.cas X.clock (acts := []) hfr happ hPc trivial
  have hq' : vx_Q Qc XC mc ms free a (U.calling g mk a) o s₂ := hq
  rw [State.frames_setTop' g h.top] at hend
  obtain ⟨g₀, hg0⟩ := Option.isSome_iff_exists.mp h.top
  obtain ⟨r, hr⟩ := State.topJava?_eq_some.mp hg0
  have hr' : (({ U with heap := s₂.heap, slotsUsed := s₂.slotsUsed } : State).setVm s₂.vm).frames = .java g₀ :: r := hr
  rcases hq' with ⟨hqc, L, hfe, hL⟩ | ⟨q, rfl, E, ce, L, hx, hce, hcv, hcl, hW₂, hsm, hL⟩
  · obtain ⟨⟨v, rfl⟩, hW₂, e2, q2, q3, q4, q5, q6⟩ := id hfe
    have e3 : s₂ = ({ (U.calling g mk a).setFrames s₂.frames with heap := s₂.heap, slotsUsed := s₂.slotsUsed } : State).setVm s₂.vm := by
      have : s₂ = ({ s₂ with vm := (U.calling g mk a).vm } : State).setVm s₂.vm := rfl
      rw [e2] at this
      exact this
    obtain ⟨c₂, i₂, len₂, hc₂, hd₂, hf₂⟩ := hend
    have hW' : U.WarmedH s₂.vm := hW₂
    have hcc : c₂ = c := by
      have h1 : s₂.code? g.method = U.code? g.method := by
        rw [State.code?_eq, State.code?_eq, hW'.alike.method?]
      exact Option.some.inj (hc₂.symm.trans (h1.trans h.code))
    subst hcc
    have hlen : len₂ = len := by rw [hdg] at hd₂; cases hd₂; rfl
    subst hlen
    have hs₂ : s₂ = (({ U with heap := s₂.heap, slotsUsed := s₂.slotsUsed } : State).setVm s₂.vm).setTop { g with pc := g.pc + len₂, stack := v.toList ++ g.stack } := by
      refine e3.trans ?_
      rw [hf₂, State.calling_eq h.top, State.setFrames_setFrames, State.setTop_of_frames _ hr', hr]
      rfl
    have hsame : U.sameButNew ({ U with heap := s₂.heap, slotsUsed := s₂.slotsUsed } : State) L mc ms := by
      refine ⟨?_, q2, q3, q4, q5, q6⟩
      obtain ⟨t, ht, -⟩ := State.frames_cons hr
      show ({ U with heap := s₂.heap, slotsUsed := s₂.slotsUsed } : State) = { U.setFrames U.frames with heap := s₂.heap, slotsUsed := s₂.slotsUsed }
      rw [State.setFrames_self ht]
    subst hg
    refine Or.inl ⟨v, ⟨(({ U with heap := s₂.heap, slotsUsed := s₂.slotsUsed } : State).setVm s₂.vm), Ls ++ L, c0 + mc, s0 + ms⟩,
      ⟨X.admits, X.cas, X.clock, X.frames, X.room, X.hears, X.method, X.code, (X.here.setHeapUsed s₂.heap s₂.slotsUsed).setVm hW'.alike, X.tail, State.WarmedH.trans X.warmed hW', X.limits, X.bytes, X.same.trans (hsame.setVm s.vm)⟩,
      ⟨g, mk, s₂, L, rfl, rfl, hqc, rfl, hL, rfl, rfl⟩, ?_⟩
    show Steps p.tables e below _ ((({ U with heap := s₂.heap, slotsUsed := s₂.slotsUsed } : State).setVm s₂.vm).setTop { g with pc := g.pc + len₂, stack := v.toList ++ g.stack })
    rw [← hs₂]
    exact hsteps
  · obtain ⟨e2, q2, q3, q4, q5, q6⟩ := id hsm
    have e3 : s₂ = ({ (U.calling g mk a).setFrames s₂.frames with heap := s₂.heap, slotsUsed := s₂.slotsUsed } : State).setVm s₂.vm := by
      have : s₂ = ({ s₂ with vm := (U.calling g mk a).vm } : State).setVm s₂.vm := rfl
      rw [e2] at this
      exact this
    have hf₂ : s₂.frames = .throwing q :: .java g :: U.frames.tail := hend
    have hW' : U.WarmedH s₂.vm := hW₂
    have hs₂ : s₂ = ((({ U with heap := s₂.heap, slotsUsed := s₂.slotsUsed } : State).setVm s₂.vm).setTop g).pushFrame (.throwing q) := by
      refine e3.trans ?_
      rw [hf₂, State.calling_eq h.top, State.setFrames_setFrames, State.pushFrame, State.frames_setTop _ hr', State.setTop_of_frames _ hr', State.setFrames_setFrames, hr]
      rfl
    have hsame : U.sameButNew ({ U with heap := s₂.heap, slotsUsed := s₂.slotsUsed } : State) L mc ms := by
      refine ⟨?_, q2, q3, q4, q5, q6⟩
      obtain ⟨t, ht, -⟩ := State.frames_cons hr
      show ({ U with heap := s₂.heap, slotsUsed := s₂.slotsUsed } : State) = { U.setFrames U.frames with heap := s₂.heap, slotsUsed := s₂.slotsUsed }
      rw [State.setFrames_self ht]
    subst hg
    refine Or.inr ⟨q, ⟨(({ U with heap := s₂.heap, slotsUsed := s₂.slotsUsed } : State).setVm s₂.vm), Ls ++ L, c0 + mc, s0 + ms⟩,
      ⟨X.admits, X.cas, X.clock, X.frames, X.room, X.hears, X.method, X.code, (X.here.setHeapUsed s₂.heap s₂.slotsUsed).setVm hW'.alike, X.tail, State.WarmedH.trans X.warmed hW', X.limits, X.bytes, X.same.trans (hsame.setVm s.vm)⟩,
      ⟨g, mk, s₂, L, E, ce, rfl, rfl, hx, hce, hcv, hcl, rfl, hL, rfl, rfl⟩, ?_⟩
    show Steps p.tables e below _ (((({ U with heap := s₂.heap, slotsUsed := s₂.slotsUsed } : State).setVm s₂.vm).setTop g).pushFrame (.throwing q))
    rw [← hs₂]
    exact hsteps
end Payer
section Calls
variable {p : Program} {l : Launch} {e : Env} {R : Room} {s : State} {m : MethodId} {args : Array Value} {below : List Frame} {meth : Method} {c : Code} {T : State} {locs : List Loc} {cells slots : Nat}
theorem vx_callV (X : Stand p l e R s m args below meth c T locs cells slots) (hexec : p.tables.exec = Jvm.exec) {own C : String} {index : Nat} {y : MethodName} {bytes : ByteArray} {maxL : Nat} {ret : Option FieldType}
    (hown : s.vm.findClass own = some m.cls) (hlink : (Cond.methodLink own index y).before args s = true) (hinst : (Cond.instanceMethod y).before args s = true) (hsel : (Cond.selects C y y).before args s = true)
    (hcode : (Cond.code y bytes maxL ret).before args s = true) (hy : y.cls ≠ "java/lang/invoke/MethodHandle" ∧ y.cls ≠ "java/lang/invoke/VarHandle")
    {W9 : Nat} {Pre : Pt → Array Value → Prop} {Post : Pt → Array Value → Option Value → Pt → Prop} {PostX : Pt → Array Value → Addr → Pt → Prop} (hK : vx_Back l R p e below s args y 3 W9 Pre Post PostX)
    {b : Addr} {cellB : Cell} (hcell : T.heap[b]? = some cellB) (hobj : cellB.vm.isStatics = false) (hcls : s.vm.findClass C = some cellB.cls)
    {g : JFrame} (hg : g.method = m) (hsize : g.locals.size = c.maxLocals) {argsL rest : List Value} (hlen : ∀ sig, parseMethodDescriptor y.desc = some sig → argsL.length = sig.parameters.length)
    (hstack : g.stack = argsL.reverse ++ .ref b :: rest) (hW : 2 * g.monitorRoom + (rest.map fun v => v.category).sum ≤ W9) (hdg : decode c.code g.pc = .ok (.invokevirtual index, 3))
    (hpre : ∀ vm₁, s.WarmedH vm₁ → Pre ⟨T.setVm vm₁, locs, cells, slots⟩ (Value.ref b :: argsL).toArray) :
    (∃ (v : Option Value) (vm₁ : Vm) (B : Pt), s.WarmedH vm₁ ∧ Stand p l e R s m args below meth c B.U B.locs B.cells B.slots ∧ Post ⟨T.setVm vm₁, locs, cells, slots⟩ (Value.ref b :: argsL).toArray v B ∧
      ∀ target, Steps p.tables e below (B.U.setTop { g with pc := g.pc + 3, stack := v.toList ++ rest }) target → Steps p.tables e below (T.setTop g) target) ∨
    (∃ (q : Addr) (vm₁ : Vm) (B : Pt), s.WarmedH vm₁ ∧ Stand p l e R s m args below meth c B.U B.locs B.cells B.slots ∧ PostX ⟨T.setVm vm₁, locs, cells, slots⟩ (Value.ref b :: argsL).toArray q B ∧
      Steps p.tables e below (T.setTop g) ((B.U.setTop { g with stack := rest }).pushFrame (.throwing q))) := by
  obtain ⟨mk, methM, hnamed, hmethM, hstM, habM⟩ := Cond.instanceMethod_spec hinst
  obtain ⟨methM', cM, hmethM', -, -, -, -, -, -, hsigM⟩ := Cond.code_spec hnamed hcode
  cases hmethM.symm.trans hmethM'
  obtain ⟨c2, r2, m2, q1, q2, q3, q4, kP, hkP, hkPi⟩ := Cond.selects_spec hsel
  cases hcls.symm.trans q1
  cases (State.methodFound?_of_named hnamed hy).symm.trans q2
  cases hnamed.symm.trans q3
  have hselP : selectMethod e.platform s.vm cellB.cls mk = .method mk := by rw [Launch.admits_selectMethod X.admits]; exact q4
  obtain ⟨vm₁, X₁, hstep₁⟩ := X.invokevirtual hexec hown hlink hnamed hmethM hstM hkP hkPi hy (a := b) (cell := cellB) hcell
    (fun z h => by rw [h] at hobj; cases hobj) hselP hmethM habM hkP hkPi (g := g) hg (argsL := argsL) (rest := rest) (hlen _ hsigM) hstack hdg
  rcases hK m meth c ⟨T.setVm vm₁, locs, cells, slots⟩ { g with stack := rest } (.invokevirtual index) mk (Value.ref b :: argsL).toArray X₁ hg hsize hdg hW (X₁.named hnamed) (hpre vm₁ X₁.warmed) with ⟨v, B, X', hpost, hsteps⟩ | ⟨q, B, X', hpost, hsteps⟩
  · exact Or.inl ⟨v, vm₁, B, X₁.warmed, X', hpost, fun target h => hstep₁ _ fun acts => by rw [doInvoke_state]; exact hsteps.trans h⟩
  · exact Or.inr ⟨q, vm₁, B, X₁.warmed, X', hpost, hstep₁ _ fun acts => by rw [doInvoke_state]; exact hsteps⟩
theorem vx_callS (X : Stand p l e R s m args below meth c T locs cells slots) (hexec : p.tables.exec = Jvm.exec) {own : String} {index : Nat} {y : MethodName} {bytes : ByteArray} {maxL : Nat} {ret : Option FieldType}
    (hown : s.vm.findClass own = some m.cls) (hlink : (Cond.methodLink own index y).before args s = true) (hstat : (Cond.static y).before args s = true) (hinit : (Cond.initialized y.cls).before args s = true)
    (hcode : (Cond.code y bytes maxL ret).before args s = true) (hy : y.cls ≠ "java/lang/invoke/MethodHandle" ∧ y.cls ≠ "java/lang/invoke/VarHandle")
    {W9 : Nat} {Pre : Pt → Array Value → Prop} {Post : Pt → Array Value → Option Value → Pt → Prop} {PostX : Pt → Array Value → Addr → Pt → Prop} (hK : vx_Back l R p e below s args y 3 W9 Pre Post PostX)
    {g : JFrame} (hg : g.method = m) (hsize : g.locals.size = c.maxLocals) {argsL rest : List Value} (hlen : ∀ sig, parseMethodDescriptor y.desc = some sig → argsL.length = sig.parameters.length)
    (hstack : g.stack = argsL.reverse ++ rest) (hW : 2 * g.monitorRoom + (rest.map fun v => v.category).sum ≤ W9) (hdg : decode c.code g.pc = .ok (.invokestatic index, 3))
    (hpre : ∀ vm₁, s.WarmedH vm₁ → Pre ⟨T.setVm vm₁, locs, cells, slots⟩ argsL.toArray) :
    (∃ (v : Option Value) (vm₁ : Vm) (B : Pt), s.WarmedH vm₁ ∧ Stand p l e R s m args below meth c B.U B.locs B.cells B.slots ∧ Post ⟨T.setVm vm₁, locs, cells, slots⟩ argsL.toArray v B ∧
      ∀ target, Steps p.tables e below (B.U.setTop { g with pc := g.pc + 3, stack := v.toList ++ rest }) target → Steps p.tables e below (T.setTop g) target) ∨
    (∃ (q : Addr) (vm₁ : Vm) (B : Pt), s.WarmedH vm₁ ∧ Stand p l e R s m args below meth c B.U B.locs B.cells B.slots ∧ PostX ⟨T.setVm vm₁, locs, cells, slots⟩ argsL.toArray q B ∧
      Steps p.tables e below (T.setTop g) ((B.U.setTop { g with stack := rest }).pushFrame (.throwing q))) := by
  obtain ⟨mk, hnamed⟩ := Cond.code_named hcode
  obtain ⟨methM, cM, hmethM, -, -, -, -, -, -, hsigM⟩ := Cond.code_spec hnamed hcode
  have hstatic : methM.isStatic = true := Cond.static_spec hnamed hmethM hstat
  obtain ⟨kP, hkP, -⟩ := className_of_methodNamed hnamed
  have hinitP : kP.init = .initialized := Cond.initialized_spec (findClass_of_methodNamed hnamed) hkP hinit
  obtain ⟨vm₁, X₁, hstep₁⟩ := X.invokestatic hexec hown hlink hnamed hmethM hstatic hkP hinitP hy (g := g) hg (argsL := argsL) (rest := rest) (hlen _ hsigM) hstack hdg
  rcases hK m meth c ⟨T.setVm vm₁, locs, cells, slots⟩ { g with stack := rest } (.invokestatic index) mk argsL.toArray X₁ hg hsize hdg hW (X₁.named hnamed) (hpre vm₁ X₁.warmed) with ⟨v, B, X', hpost, hsteps⟩ | ⟨q, B, X', hpost, hsteps⟩
  · exact Or.inl ⟨v, vm₁, B, X₁.warmed, X', hpost, fun target h => hstep₁ _ fun acts => by rw [doInvoke_state]; exact hsteps.trans h⟩
  · exact Or.inr ⟨q, vm₁, B, X₁.warmed, X', hpost, hstep₁ _ fun acts => by rw [doInvoke_state]; exact hsteps⟩
end Calls
theorem vx_cls {s : State} {T : State} {vm₁ : Vm} {E : String} {k : ClassId} (hW : s.WarmedH vm₁) (h : (T.setVm vm₁).vm.findClass E = some k) : s.vm.findClass E = some k := by
  have h1 : vm₁.findClass E = some k := h
  rw [hW.alike.findClass] at h1
  exact h1
/-- the method's frame g, with q thrown over it -/
def vx_W (p : Program) (l : Launch) (e : Env) (R : Room) (s : State) (m : MethodId) (args : Array Value) (below : List Frame) (meth : Method) (c : Code) (H : Heap) (locs : List Loc) (cells slots : Nat) (Q : State → Prop) (g : JFrame) (q : Addr) : Prop :=
  ∀ T : State, T.heap = H → Stand p l e R s m args below meth c T locs cells slots → ∃ t, Steps p.tables e below ((T.setTop g).pushFrame (.throwing q)) t ∧ Q t
def vx_Run (p : Program) (l : Launch) (e : Env) (R : Room) (s : State) (m : MethodId) (args : Array Value) (below : List Frame) (meth : Method) (c : Code) (H : Heap) (locs : List Loc) (cells slots mc ms : Nat) (g : JFrame) (rest : List Value) (Qa : State → Outcome → State → Prop) (XC : String → State → State → Prop) (free : Addr → Prop) : Prop :=
  ∀ T : State, T.heap = H → Stand p l e R s m args below meth c T locs cells slots →
    (∃ (v : Option Value) (st₀ t T' : State) (L : List Loc), st₀.heap = H ∧ Stand p l e R s m args below meth c T' (locs ++ L) (cells + mc) (slots + ms) ∧ (∀ q ∈ L, free q.base) ∧ T'.heap = t.heap ∧ T'.vm = t.vm ∧ Qa st₀ (.returned v) t ∧
      Goes p e below T g T' { g with pc := g.pc + 3, stack := v.toList ++ rest }) ∨
    (∃ (q : Addr) (st₀ t T' : State) (L : List Loc) (E : String) (ce : Cell), st₀.heap = H ∧ Stand p l e R s m args below meth c T' (locs ++ L) (cells + mc) (slots + ms) ∧ (∀ z ∈ L, free z.base) ∧ T'.heap = t.heap ∧ T'.vm = t.vm ∧ XC E st₀ t ∧ t.heap[q]? = some ce ∧ ce.vm = .none ∧ s.vm.findClass E = some ce.cls ∧
      Steps p.tables e below (T.setTop g) ((T'.setTop { g with stack := rest }).pushFrame (.throwing q)))
def vx_X {S : Type} (px : S → Prop) (B : String → S → State → Prop) (A : Nat → Prop) : String → State → State → Prop := fun E st t => ∃ u : S, px u ∧ B E u t ∧ va_F A st t
section Runs
variable {p : Program} {l : Launch} {e : Env} {R : Room} {s : State} {m : MethodId} {args : Array Value} {below : List Frame} {meth : Method} {c : Code} {H : Heap} {locs : List Loc} {cells slots : Nat}
variable {y : MethodName} {bytes cc : ByteArray} {maxL nL mc ms n index : Nat} {ret : Option FieldType} {ws : List Cond} {rm : Room} {Pc : Array Value → State → Prop} {Qc : Array Value → State → Outcome → State → Prop} {XC : String → State → State → Prop} {free : Addr → Prop} {Ts : List Cond} {own C : String} {b : Addr} {As rest : List Value} {g : JFrame}
theorem vx_callBack (cb : CallB R s args own index y bytes maxL ret ws rm mc ms n) (hM : vx_Met l y ws rm Pc Qc XC mc ms free) (hbl : FrameBlind Pc) : vx_Back l R p e below s args y 3 8 (PreOf R mc ms Pc) (PostOf Qc mc ms free) (vx_Post XC mc ms free) := by
  obtain ⟨hrc, hrs, hfr, hlo, hws, hcw, -, hini, -⟩ := cb
  exact vx_back (bytes := bytes) (maxL := maxL) (ret := ret) hM hbl hrc hrs hfr hlo hws hcw (fun a' U hW => word_at hW (Or.inl (by first | rfl | simp [Cond.onTables, Cond.keeps, Cond.steady])) hini)
theorem vx_runV (S : CallFix p m c cc nL s args Ts own) (hM : vx_Met l y ws rm Pc Qc XC mc ms free) (cw : CallW R s args own C index y bytes maxL ret ws rm mc ms n) (hp : PreV s H C b Pc As)
    (hg : g.method = m) (hn : As.length = n) (hsize : g.locals.size = nL) (hstack : g.stack = As.reverse ++ .ref b :: rest) (hW : 2 * g.monitorRoom + (rest.map fun v => v.category).sum ≤ 8) (hdg : decode cc g.pc = .ok (.invokevirtual index, 3)) (hf : cells + mc ≤ R.cells ∧ slots + ms ≤ R.slots) :
    vx_Run p l e R s m args below meth c H locs cells slots mc ms g rest (Qc (Value.ref b :: As).toArray) XC free := by
  have hK : vx_Back l R p e below s args y 3 8 (PreOf R mc ms Pc) (PostOf Qc mc ms free) (vx_Post XC mc ms free) := vx_callBack cw.1 hM hp.1
  obtain ⟨⟨-, -, -, -, -, -, hcode, -, hy, hlen, hl⟩, hin, hse⟩ := cw
  obtain ⟨hx, hb, hml, ho, -⟩ := S
  obtain ⟨-, ⟨cellB, hcB, hoB, hclB⟩, hPc⟩ := hp
  intro T hT X
  rcases vx_callV X hx (C := C) (bytes := bytes) (maxL := maxL) (ret := ret) ho hl hin hse hcode hy hK (by rw [hT]; exact hcB) hoB hclB hg (hsize.trans hml.symm) (argsL := As) (rest := rest) (fun sig h => hn.trans (hlen sig h)) hstack hW (by rw [hb]; exact hdg)
    (fun vm₁ hW₁ => ⟨hf.1, hf.2, hPc (T.setVm vm₁) hT hW₁⟩) with ⟨v, vm₁, ⟨U', l2, c2, s2⟩, hW₁, X', ⟨g', mk, t, L, e1, e2, hq, h1, hL, h2, h3⟩, st⟩ | ⟨q, vm₁, ⟨U', l2, c2, s2⟩, hW₁, X', ⟨g', mk, t, L, E, ce, e1, e2, hq, hce, hcv, hcl, h1, hL, h2, h3⟩, st⟩
  · dsimp only [Pt.U, Pt.locs, Pt.cells, Pt.slots] at X' e1 e2 h1 h2 h3 st
    subst h1; subst h2; subst h3
    exact Or.inl ⟨v, (T.setVm vm₁).calling g' mk (Value.ref b :: As).toArray, t, U', L, hT, X', hL, e1, e2, hq, st⟩
  · dsimp only [Pt.U, Pt.locs, Pt.cells, Pt.slots] at X' e1 e2 h1 h2 h3 st hcl
    subst h1; subst h2; subst h3
    exact Or.inr ⟨q, (T.setVm vm₁).calling g' mk (Value.ref b :: As).toArray, t, U', L, E, ce, hT, X', hL, e1, e2, hq, hce, hcv, vx_cls hW₁ hcl, st⟩
theorem vx_runS (S : CallFix p m c cc nL s args Ts own) (hM : vx_Met l y ws rm Pc Qc XC mc ms free) (cw : CallB R s args own index y bytes maxL ret ws rm mc ms n ∧ (Cond.static y).before args s = true) (hp : PreS s H Pc As)
    (hg : g.method = m) (hn : As.length = n) (hsize : g.locals.size = nL) (hstack : g.stack = As.reverse ++ rest) (hW : 2 * g.monitorRoom + (rest.map fun v => v.category).sum ≤ 8) (hdg : decode cc g.pc = .ok (.invokestatic index, 3)) (hf : cells + mc ≤ R.cells ∧ slots + ms ≤ R.slots) :
    vx_Run p l e R s m args below meth c H locs cells slots mc ms g rest (Qc As.toArray) XC free := by
  have hK : vx_Back l R p e below s args y 3 8 (PreOf R mc ms Pc) (PostOf Qc mc ms free) (vx_Post XC mc ms free) := vx_callBack cw.1 hM hp.1
  obtain ⟨⟨-, -, -, -, -, -, hcode, hini, hy, hlen, hl⟩, hstt⟩ := cw
  obtain ⟨hx, hb, hml, ho, -⟩ := S
  intro T hT X
  rcases vx_callS X hx (bytes := bytes) (maxL := maxL) (ret := ret) ho hl hstt hini hcode hy hK hg (hsize.trans hml.symm) (argsL := As) (rest := rest) (fun sig h => hn.trans (hlen sig h)) hstack hW (by rw [hb]; exact hdg)
    (fun vm₁ hW₁ => ⟨hf.1, hf.2, hp.2 (T.setVm vm₁) hT hW₁⟩) with ⟨v, vm₁, ⟨U', l2, c2, s2⟩, hW₁, X', ⟨g', mk, t, L, e1, e2, hq, h1, hL, h2, h3⟩, st⟩ | ⟨q, vm₁, ⟨U', l2, c2, s2⟩, hW₁, X', ⟨g', mk, t, L, E, ce, e1, e2, hq, hce, hcv, hcl, h1, hL, h2, h3⟩, st⟩
  · dsimp only [Pt.U, Pt.locs, Pt.cells, Pt.slots] at X' e1 e2 h1 h2 h3 st
    subst h1; subst h2; subst h3
    exact Or.inl ⟨v, (T.setVm vm₁).calling g' mk As.toArray, t, U', L, hT, X', hL, e1, e2, hq, st⟩
  · dsimp only [Pt.U, Pt.locs, Pt.cells, Pt.slots] at X' e1 e2 h1 h2 h3 st hcl
    subst h1; subst h2; subst h3
    exact Or.inr ⟨q, (T.setVm vm₁).calling g' mk As.toArray, t, U', L, E, ce, hT, X', hL, e1, e2, hq, hce, hcv, vx_cls hW₁ hcl, st⟩
end Runs
section Rows
variable {p : Program} {l : Launch} {e : Env} {R : Room} {s : State} {m : MethodId} {args : Array Value} {below : List Frame} {meth : Method} {c : Code} {H : Heap} {locs : List Loc} {cells slots : Nat} {Q : State → Prop}
variable {mc ms : Nat} {free : Addr → Prop} {A0 A1 : Nat → Prop} {H0 : Heap} {a : Array Value} {pc : Nat} {ls : Array Slot} {st0 rest : List Value}
theorem vx_keep {st₀ t T' : State} {L : List Loc} (h0 : st₀.heap = H) (e1 : T'.heap = t.heap) (hS : va_S A0 H0 H locs) (hA : ∀ q, q < H.size → A1 q → A0 q) (hf : ∀ q, free q → A0 q) (hL : ∀ q ∈ L, free q.base) (hF : va_F A1 st₀ t) :
    H.size ≤ T'.heap.size ∧ (∀ q : Nat, q < H.size → ¬ A1 q → T'.heap[q]? = H[q]?) ∧ va_S A0 H0 T'.heap (locs ++ L) := by
  obtain ⟨hz, hk⟩ := hF
  rw [h0] at hz hk
  exact ⟨by rw [e1]; exact hz, fun q h1 h2 => by rw [e1]; exact hk q h1 h2,
    ⟨Nat.le_trans hS.1 (by rw [e1]; exact hz), fun q h1 h2 => by rw [e1, hk q (Nat.lt_of_lt_of_le h1 hS.1) (fun z => h2 (hA q (Nat.lt_of_lt_of_le h1 hS.1) z))]; exact hS.2.1 q h1 h2, fun q hq => by
      rcases List.mem_append.mp hq with h | h
      · exact hS.2.2 q h
      · exact hf _ (hL q h)⟩⟩
theorem vx_calli {S SX : Type} {post : Int32 → S → Prop} {px : SX → Prop} {B : S → State → Prop} {BX : String → SX → State → Prop} {AX : Nat → Prop} (hr : vx_Run p l e R s m args below meth c H locs cells slots mc ms (F0 m pc ls st0) rest (va_Qi post B A1 a) (vx_X px BX AX) free) (hS : va_S A0 H0 H locs) (hA : ∀ q, q < H.size → A1 q → A0 q) (hf : ∀ q, free q → A0 q) (hAX : ∀ q, q < H.size → AX q → A0 q)
    (kx : ∀ (E : String) (ce : Cell) (q9 : Addr) (u : SX) (t : State) (H1 : Heap) (locs1 : List Loc), t.heap = H1 → s.vm.Alike t.vm → px u → BX E u t → H.size ≤ H1.size → (∀ q : Nat, q < H.size → ¬ AX q → H1[q]? = H[q]?) → va_S A0 H0 H1 locs1 → H1[q9]? = some ce → ce.vm = .none → s.vm.findClass E = some ce.cls → vx_W p l e R s m args below meth c H1 locs1 (cells + mc) (slots + ms) Q (F0 m pc ls rest) q9)
    (kk : ∀ (r : Int32) (u : S) (t : State) (H1 : Heap) (locs1 : List Loc), t.heap = H1 → s.vm.Alike t.vm → post r u → B u t → H.size ≤ H1.size → (∀ q : Nat, q < H.size → ¬ A1 q → H1[q]? = H[q]?) → va_S A0 H0 H1 locs1 → W p l e R s m args below meth c H1 locs1 (cells + mc) (slots + ms) Q (F0 m (pc + 3) ls (.int r :: rest))) : W p l e R s m args below meth c H locs cells slots Q (F0 m pc ls st0) := by
  intro T hT X
  rcases hr T hT X with ⟨v, st₀, t, T', L, h0, X', hL, e1, e2, ⟨⟨r, u, hv, hp, hb⟩, hF⟩, st⟩ | ⟨q, st₀, t, T', L, E, ce, h0, X', hL, e1, e2, ⟨u, hp, hb, hF⟩, hce, hcv, hcl, st⟩
  · cases hv
    obtain ⟨k1, k2, k3⟩ := vx_keep h0 e1 hS hA hf hL hF
    obtain ⟨t2, a1, b1⟩ := kk r u t T'.heap (locs ++ L) e1.symm (by rw [← e2]; exact X'.warmed.alike) hp hb k1 k2 k3 T' rfl X'
    exact ⟨t2, st t2 a1, b1⟩
  · obtain ⟨k1, k2, k3⟩ := vx_keep h0 e1 hS hAX hf hL hF
    obtain ⟨t2, a1, b1⟩ := kx E ce q u t T'.heap (locs ++ L) e1.symm (by rw [← e2]; exact X'.warmed.alike) hp hb k1 k2 k3 (by rw [e1]; exact hce) hcv hcl T' rfl X'
    exact ⟨t2, st.trans a1, b1⟩
theorem vx_calll {S SX : Type} {post : Int64 → S → Prop} {px : SX → Prop} {B : S → State → Prop} {BX : String → SX → State → Prop} {AX : Nat → Prop} (hr : vx_Run p l e R s m args below meth c H locs cells slots mc ms (F0 m pc ls st0) rest (va_Ql post B A1 a) (vx_X px BX AX) free) (hS : va_S A0 H0 H locs) (hA : ∀ q, q < H.size → A1 q → A0 q) (hf : ∀ q, free q → A0 q) (hAX : ∀ q, q < H.size → AX q → A0 q)
    (kx : ∀ (E : String) (ce : Cell) (q9 : Addr) (u : SX) (t : State) (H1 : Heap) (locs1 : List Loc), t.heap = H1 → s.vm.Alike t.vm → px u → BX E u t → H.size ≤ H1.size → (∀ q : Nat, q < H.size → ¬ AX q → H1[q]? = H[q]?) → va_S A0 H0 H1 locs1 → H1[q9]? = some ce → ce.vm = .none → s.vm.findClass E = some ce.cls → vx_W p l e R s m args below meth c H1 locs1 (cells + mc) (slots + ms) Q (F0 m pc ls rest) q9)
    (kk : ∀ (r : Int64) (u : S) (t : State) (H1 : Heap) (locs1 : List Loc), t.heap = H1 → s.vm.Alike t.vm → post r u → B u t → H.size ≤ H1.size → (∀ q : Nat, q < H.size → ¬ A1 q → H1[q]? = H[q]?) → va_S A0 H0 H1 locs1 → W p l e R s m args below meth c H1 locs1 (cells + mc) (slots + ms) Q (F0 m (pc + 3) ls (.long r :: rest))) : W p l e R s m args below meth c H locs cells slots Q (F0 m pc ls st0) := by
  intro T hT X
  rcases hr T hT X with ⟨v, st₀, t, T', L, h0, X', hL, e1, e2, ⟨⟨r, u, hv, hp, hb⟩, hF⟩, st⟩ | ⟨q, st₀, t, T', L, E, ce, h0, X', hL, e1, e2, ⟨u, hp, hb, hF⟩, hce, hcv, hcl, st⟩
  · cases hv
    obtain ⟨k1, k2, k3⟩ := vx_keep h0 e1 hS hA hf hL hF
    obtain ⟨t2, a1, b1⟩ := kk r u t T'.heap (locs ++ L) e1.symm (by rw [← e2]; exact X'.warmed.alike) hp hb k1 k2 k3 T' rfl X'
    exact ⟨t2, st t2 a1, b1⟩
  · obtain ⟨k1, k2, k3⟩ := vx_keep h0 e1 hS hAX hf hL hF
    obtain ⟨t2, a1, b1⟩ := kx E ce q u t T'.heap (locs ++ L) e1.symm (by rw [← e2]; exact X'.warmed.alike) hp hb k1 k2 k3 (by rw [e1]; exact hce) hcv hcl T' rfl X'
    exact ⟨t2, st.trans a1, b1⟩
theorem vx_callf {S SX : Type} {post : UInt32 → S → Prop} {px : SX → Prop} {B : S → State → Prop} {BX : String → SX → State → Prop} {AX : Nat → Prop} (hr : vx_Run p l e R s m args below meth c H locs cells slots mc ms (F0 m pc ls st0) rest (va_Qf post B A1 a) (vx_X px BX AX) free) (hS : va_S A0 H0 H locs) (hA : ∀ q, q < H.size → A1 q → A0 q) (hf : ∀ q, free q → A0 q) (hAX : ∀ q, q < H.size → AX q → A0 q)
    (kx : ∀ (E : String) (ce : Cell) (q9 : Addr) (u : SX) (t : State) (H1 : Heap) (locs1 : List Loc), t.heap = H1 → s.vm.Alike t.vm → px u → BX E u t → H.size ≤ H1.size → (∀ q : Nat, q < H.size → ¬ AX q → H1[q]? = H[q]?) → va_S A0 H0 H1 locs1 → H1[q9]? = some ce → ce.vm = .none → s.vm.findClass E = some ce.cls → vx_W p l e R s m args below meth c H1 locs1 (cells + mc) (slots + ms) Q (F0 m pc ls rest) q9)
    (kk : ∀ (r : UInt32) (u : S) (t : State) (H1 : Heap) (locs1 : List Loc), t.heap = H1 → s.vm.Alike t.vm → post r u → B u t → H.size ≤ H1.size → (∀ q : Nat, q < H.size → ¬ A1 q → H1[q]? = H[q]?) → va_S A0 H0 H1 locs1 → W p l e R s m args below meth c H1 locs1 (cells + mc) (slots + ms) Q (F0 m (pc + 3) ls (.float r :: rest))) : W p l e R s m args below meth c H locs cells slots Q (F0 m pc ls st0) := by
  intro T hT X
  rcases hr T hT X with ⟨v, st₀, t, T', L, h0, X', hL, e1, e2, ⟨⟨r, u, hv, hp, hb⟩, hF⟩, st⟩ | ⟨q, st₀, t, T', L, E, ce, h0, X', hL, e1, e2, ⟨u, hp, hb, hF⟩, hce, hcv, hcl, st⟩
  · cases hv
    obtain ⟨k1, k2, k3⟩ := vx_keep h0 e1 hS hA hf hL hF
    obtain ⟨t2, a1, b1⟩ := kk r u t T'.heap (locs ++ L) e1.symm (by rw [← e2]; exact X'.warmed.alike) hp hb k1 k2 k3 T' rfl X'
    exact ⟨t2, st t2 a1, b1⟩
  · obtain ⟨k1, k2, k3⟩ := vx_keep h0 e1 hS hAX hf hL hF
    obtain ⟨t2, a1, b1⟩ := kx E ce q u t T'.heap (locs ++ L) e1.symm (by rw [← e2]; exact X'.warmed.alike) hp hb k1 k2 k3 (by rw [e1]; exact hce) hcv hcl T' rfl X'
    exact ⟨t2, st.trans a1, b1⟩
theorem vx_calld {S SX : Type} {post : UInt64 → S → Prop} {px : SX → Prop} {B : S → State → Prop} {BX : String → SX → State → Prop} {AX : Nat → Prop} (hr : vx_Run p l e R s m args below meth c H locs cells slots mc ms (F0 m pc ls st0) rest (va_Qd post B A1 a) (vx_X px BX AX) free) (hS : va_S A0 H0 H locs) (hA : ∀ q, q < H.size → A1 q → A0 q) (hf : ∀ q, free q → A0 q) (hAX : ∀ q, q < H.size → AX q → A0 q)
    (kx : ∀ (E : String) (ce : Cell) (q9 : Addr) (u : SX) (t : State) (H1 : Heap) (locs1 : List Loc), t.heap = H1 → s.vm.Alike t.vm → px u → BX E u t → H.size ≤ H1.size → (∀ q : Nat, q < H.size → ¬ AX q → H1[q]? = H[q]?) → va_S A0 H0 H1 locs1 → H1[q9]? = some ce → ce.vm = .none → s.vm.findClass E = some ce.cls → vx_W p l e R s m args below meth c H1 locs1 (cells + mc) (slots + ms) Q (F0 m pc ls rest) q9)
    (kk : ∀ (r : UInt64) (u : S) (t : State) (H1 : Heap) (locs1 : List Loc), t.heap = H1 → s.vm.Alike t.vm → post r u → B u t → H.size ≤ H1.size → (∀ q : Nat, q < H.size → ¬ A1 q → H1[q]? = H[q]?) → va_S A0 H0 H1 locs1 → W p l e R s m args below meth c H1 locs1 (cells + mc) (slots + ms) Q (F0 m (pc + 3) ls (.double r :: rest))) : W p l e R s m args below meth c H locs cells slots Q (F0 m pc ls st0) := by
  intro T hT X
  rcases hr T hT X with ⟨v, st₀, t, T', L, h0, X', hL, e1, e2, ⟨⟨r, u, hv, hp, hb⟩, hF⟩, st⟩ | ⟨q, st₀, t, T', L, E, ce, h0, X', hL, e1, e2, ⟨u, hp, hb, hF⟩, hce, hcv, hcl, st⟩
  · cases hv
    obtain ⟨k1, k2, k3⟩ := vx_keep h0 e1 hS hA hf hL hF
    obtain ⟨t2, a1, b1⟩ := kk r u t T'.heap (locs ++ L) e1.symm (by rw [← e2]; exact X'.warmed.alike) hp hb k1 k2 k3 T' rfl X'
    exact ⟨t2, st t2 a1, b1⟩
  · obtain ⟨k1, k2, k3⟩ := vx_keep h0 e1 hS hAX hf hL hF
    obtain ⟨t2, a1, b1⟩ := kx E ce q u t T'.heap (locs ++ L) e1.symm (by rw [← e2]; exact X'.warmed.alike) hp hb k1 k2 k3 (by rw [e1]; exact hce) hcv hcl T' rfl X'
    exact ⟨t2, st.trans a1, b1⟩
theorem vx_callv {S SX : Type} {post : S → Prop} {px : SX → Prop} {B : S → State → Prop} {BX : String → SX → State → Prop} {AX : Nat → Prop} (hr : vx_Run p l e R s m args below meth c H locs cells slots mc ms (F0 m pc ls st0) rest (va_Qv post B A1 a) (vx_X px BX AX) free) (hS : va_S A0 H0 H locs) (hA : ∀ q, q < H.size → A1 q → A0 q) (hf : ∀ q, free q → A0 q) (hAX : ∀ q, q < H.size → AX q → A0 q)
    (kx : ∀ (E : String) (ce : Cell) (q9 : Addr) (u : SX) (t : State) (H1 : Heap) (locs1 : List Loc), t.heap = H1 → s.vm.Alike t.vm → px u → BX E u t → H.size ≤ H1.size → (∀ q : Nat, q < H.size → ¬ AX q → H1[q]? = H[q]?) → va_S A0 H0 H1 locs1 → H1[q9]? = some ce → ce.vm = .none → s.vm.findClass E = some ce.cls → vx_W p l e R s m args below meth c H1 locs1 (cells + mc) (slots + ms) Q (F0 m pc ls rest) q9)
    (kk : ∀ (u : S) (t : State) (H1 : Heap) (locs1 : List Loc), t.heap = H1 → s.vm.Alike t.vm → post u → B u t → H.size ≤ H1.size → (∀ q : Nat, q < H.size → ¬ A1 q → H1[q]? = H[q]?) → va_S A0 H0 H1 locs1 → W p l e R s m args below meth c H1 locs1 (cells + mc) (slots + ms) Q (F0 m (pc + 3) ls (rest))) : W p l e R s m args below meth c H locs cells slots Q (F0 m pc ls st0) := by
  intro T hT X
  rcases hr T hT X with ⟨v, st₀, t, T', L, h0, X', hL, e1, e2, ⟨⟨u, hv, hp, hb⟩, hF⟩, st⟩ | ⟨q, st₀, t, T', L, E, ce, h0, X', hL, e1, e2, ⟨u, hp, hb, hF⟩, hce, hcv, hcl, st⟩
  · cases hv
    obtain ⟨k1, k2, k3⟩ := vx_keep h0 e1 hS hA hf hL hF
    obtain ⟨t2, a1, b1⟩ := kk u t T'.heap (locs ++ L) e1.symm (by rw [← e2]; exact X'.warmed.alike) hp hb k1 k2 k3 T' rfl X'
    exact ⟨t2, st t2 a1, b1⟩
  · obtain ⟨k1, k2, k3⟩ := vx_keep h0 e1 hS hAX hf hL hF
    obtain ⟨t2, a1, b1⟩ := kx E ce q u t T'.heap (locs ++ L) e1.symm (by rw [← e2]; exact X'.warmed.alike) hp hb k1 k2 k3 (by rw [e1]; exact hce) hcv hcl T' rfl X'
    exact ⟨t2, st.trans a1, b1⟩
end Rows
section Ends
variable {p : Program} {l : Launch} {e : Env} {R : Room} {s : State} {m : MethodId} {args : Array Value} {below : List Frame} {meth : Method} {c : Code} {H : Heap} {locs : List Loc} {cells slots : Nat} {Q : State → Prop}
variable {mc ms : Nat} {free : Addr → Prop} {A0 A1 : Nat → Prop} {H0 : Heap} {a : Array Value} {ls : Array Slot} {st0 rest : List Value}
variable {Qc : Array Value → State → Outcome → State → Prop} {XC : String → State → State → Prop}
/-- what a body that may throw owes at its end -/
def vx_MQ (below : List Frame) (Qc : Array Value → State → Outcome → State → Prop) (XC : String → State → State → Prop) (a : Array Value) (s : State) (mc ms : Nat) (free : Addr → Prop) : State → Prop := fun t =>
  ∃ o, t.status = .running ∧ Ended t below o ∧ vx_Q Qc XC mc ms free a s o t
theorem vx_ret {g : JFrame} {mc ms : Nat} (k : W p l e R s m args below meth c H locs cells slots (MQ below Qc args s mc ms free) g) : W p l e R s m args below meth c H locs cells slots (vx_MQ below Qc XC args s mc ms free) g := by
  intro T hT X
  obtain ⟨t, a1, o, b1, b2, b3, b4⟩ := k T hT X
  exact ⟨t, a1, o, b1, b2, Or.inl ⟨b3, b4⟩⟩
/-- not caught here: it goes on to the caller -/
theorem vx_widen {g : JFrame} {q : Addr} {k n : Nat} (h1 : cells ≤ k) (h2 : slots ≤ n) (kk : vx_W p l e R s m args below meth c H locs k n Q g q) : vx_W p l e R s m args below meth c H locs cells slots Q g q := fun T hT X => kk T hT (stand_widen X h1 h2)
theorem vx_out {pc : Nat} {E : String} {ce : Cell} {q : Addr} {mc ms : Nat} (hout : ∀ x ∈ c.exceptionTable.toList, covers x pc = false) (hlocks : meth.locks = false) (hcell : H[q]? = some ce) (hv : ce.vm = .none) (hcl : s.vm.findClass E = some ce.cls)
    (hx : ∀ t : State, t.heap = H → s.vm.Alike t.vm → XC E s t) (hf : ∀ z ∈ locs, free z.base) (hc : cells ≤ mc) (hs : slots ≤ ms) :
    vx_W p l e R s m args below meth c H locs cells slots (vx_MQ below Qc XC args s mc ms free) (F0 m pc ls rest) q := by
  intro T hT X
  obtain ⟨st1, hrun, hend, hW, hsm⟩ := X.leaveThrown q (g := F0 m pc ls rest) rfl rfl rfl hout hlocks
  have hcell9 : (T.setFrames (.throwing q :: below)).heap[q]? = some ce := by
    show T.heap[q]? = some ce
    rw [hT]; exact hcell
  exact ⟨_, st1, .threw q, hrun, hend, Or.inr ⟨q, rfl, E, ce, locs, hx _ hT hW.alike, hcell9, hv, hcl, hW, hsm.mono hc hs, hf⟩⟩
theorem vx_frame {U : State} {k n : Nat} (h : s.sameButNew ({ U with vm := s.vm } : State) locs k n) : s.heap.size ≤ U.heap.size ∧ ∀ q : Nat, q < s.heap.size → (∀ z ∈ locs, z.base ≠ q) → U.heap[q]? = s.heap[q]? := by
  obtain ⟨-, h2, -, -, -, h6⟩ := h
  refine ⟨h2, fun q hq hz => ?_⟩
  obtain ⟨c9, e1, e2, e3, e4⟩ := h6 q _ (Array.getElem?_eq_getElem hq)
  have hs : c9.slots = (s.heap[q]).slots := Array.ext_getElem? fun i => e4 i fun hm => hz _ hm rfl
  have h9 : c9 = s.heap[q] := by
    rw [hs] at e2
    exact e2
  have e5 : U.heap[q]? = some c9 := e1
  rw [e5, h9, Array.getElem?_eq_getElem hq]
/-- the words of a throw but the four that speak of the heap -/
def vx_no (w : Cond) : Bool := decide (w ≠ .isRef (.static Bundle.tN "UNASSIGNED_STACK" Bundle.steD)) && decide (w ≠ .isRef (.static Bundle.tN "SUPPRESSED_SENTINEL" Bundle.listD)) && decide (w ≠ .laysStatic Bundle.tN "UNASSIGNED_STACK" Bundle.steD) && decide (w ≠ .laysStatic Bundle.tN "SUPPRESSED_SENTINEL" Bundle.listD)
def vx_at0 (own : String) (ic : Nat) (X : String) (names : List String) : List Cond := (Bundle.ownAtoms0 own ic X names).filter vx_no
def vx_atS (own : String) (ic : Nat) (X : String) (names : List String) : List Cond := (Bundle.ownAtoms own ic X names).filter vx_no
/-- a word that the tables alone decide, or a good one -/
def vx_ot (w : Cond) : Bool := w.onTables || goodWord w
theorem vx_ot_at {args a' : Array Value} {s U : State} {w : Cond} (hW : s.WarmedH U.vm) (hvm : s.vm = U.vm) (hg : vx_ot w = true) (h : w.before args s = true) : w.before a' U = true := by
  simp only [vx_ot, Bool.or_eq_true] at hg
  rcases hg with hg | hg
  · exact va_tabs hg hvm h
  · exact word_at hW (good_of_word hg) h
/-- a list's words: the good ones out of the method's own list, the others by premises of their own -/
theorem vx_hat {args : Array Value} {s : State} {L B : List Cond} (h1 : ∀ w ∈ L.filter goodWord, w.before args s = true) (h2 : ∀ w ∈ L.filter (fun w => !goodWord w), w ∈ B) (h3 : ∀ w ∈ B, w.before args s = true) : ∀ w ∈ L, w.before args s = true := by
  intro w hw
  by_cases g : goodWord w = true
  · exact h1 w (List.mem_filter.mpr ⟨hw, g⟩)
  · refine h3 w (h2 w (List.mem_filter.mpr ⟨hw, ?_⟩))
    show (!goodWord w) = true
    cases hgw : goodWord w
    · rfl
    · exact absurd hgw g
theorem vx_c {args : Array Value} {s : State} {w : Cond} {B : List Cond} (h : w.before args s = true) (t : ∀ w ∈ B, w.before args s = true) : ∀ w' ∈ w :: B, w'.before args s = true := fun w' h' => (List.mem_cons.mp h').elim (fun e => by rw [e]; exact h) (t w')
theorem vx_n {args : Array Value} {s : State} : ∀ w ∈ ([] : List Cond), w.before args s = true := fun _ h => nomatch h
theorem vx_own {args : Array Value} {s : State} {L : List Cond} (h1 : ∀ w ∈ L.filter vx_no, w.before args s = true)
    (hU : (Cond.isRef (.static Bundle.tN "UNASSIGNED_STACK" Bundle.steD)).before args s = true) (hN : (Cond.isRef (.static Bundle.tN "SUPPRESSED_SENTINEL" Bundle.listD)).before args s = true)
    (lU : (Cond.laysStatic Bundle.tN "UNASSIGNED_STACK" Bundle.steD).before args s = true) (lN : (Cond.laysStatic Bundle.tN "SUPPRESSED_SENTINEL" Bundle.listD).before args s = true) : ∀ w ∈ L, w.before args s = true := by
  intro w hw
  by_cases e1 : w = .isRef (.static Bundle.tN "UNASSIGNED_STACK" Bundle.steD)
  · rw [e1]; exact hU
  · by_cases e2 : w = .isRef (.static Bundle.tN "SUPPRESSED_SENTINEL" Bundle.listD)
    · rw [e2]; exact hN
    · by_cases e3 : w = .laysStatic Bundle.tN "UNASSIGNED_STACK" Bundle.steD
      · rw [e3]; exact lU
      · by_cases e4 : w = .laysStatic Bundle.tN "SUPPRESSED_SENTINEL" Bundle.listD
        · rw [e4]; exact lN
        · exact h1 w (List.mem_filter.mpr ⟨hw, by unfold vx_no; rw [decide_eq_true e1, decide_eq_true e2, decide_eq_true e3, decide_eq_true e4]; rfl⟩)
/-- where a static field lies, its class's statics cell in H -/
def vx_L (C n d : String) (A : Nat → Prop) (U : State) (H : Heap) : Prop := ∃ (c : ClassId) (k : Class) (i : Nat) (f : Field) (a : Nat) (cell : Cell), U.vm.findClass C = some c ∧ U.fieldFound? C n d = some (c, k, i, f) ∧ f.isStatic = true ∧ k.statics = some a ∧ H[a]? = some cell ∧ cell.vm.isStatics = true ∧ cell.cls = c ∧ f.slot < cell.slots.size ∧ k.staticTypes[f.slot]? = some f.type ∧ ¬ A a
theorem vx_L.moved {C n d : String} {A : Nat → Prop} {u U : State} {H : Heap} (hvm : u.vm.Alike U.vm) (h : vx_L C n d A u H) : vx_L C n d A U H := by
  obtain ⟨c, k, i, f, a, cell, h1, h2, h3, h4, h5, h6, h7, h8, h9, h10⟩ := h
  obtain ⟨k', hi', he⟩ := State.fieldFound?_setVm hvm h2
  exact ⟨c, k', i, f, a, cell, by rw [hvm.findClass]; exact h1, hi', h3, by rw [he]; exact h4, h5, h6, h7, h8, by rw [he]; exact h9, h10⟩
theorem vx_L.kept {C n d : String} {A : Nat → Prop} {U : State} {H H1 : Heap} (h : vx_L C n d A U H) (hq : ∀ a : Nat, a < H.size → ¬ A a → H1[a]? = H[a]?) : vx_L C n d A U H1 := by
  obtain ⟨c, k, i, f, a, cell, h1, h2, h3, h4, h5, h6, h7, h8, h9, h10⟩ := h
  exact ⟨c, k, i, f, a, cell, h1, h2, h3, h4, by rw [hq a (Array.getElem?_eq_some_iff.mp h5).1 h10]; exact h5, h6, h7, h8, h9, h10⟩
theorem vx_L.narrow {C n d : String} {A B : Nat → Prop} {U : State} {H : Heap} (h : vx_L C n d A U H) (hAB : ∀ q, B q → A q) : vx_L C n d B U H := by
  obtain ⟨c, k, i, f, a, cell, h1, h2, h3, h4, h5, h6, h7, h8, h9, h10⟩ := h
  exact ⟨c, k, i, f, a, cell, h1, h2, h3, h4, h5, h6, h7, h8, h9, fun z => h10 (hAB _ z)⟩
theorem vx_L.word {C n d : String} {A : Nat → Prop} {s : State} {args : Array Value} (h : vx_L C n d A s s.heap) : (Cond.laysStatic C n d).before args s = true := by
  obtain ⟨c, k, i, f, a, cell, h1, h2, h3, h4, h5, h6, h7, h8, h9, -⟩ := h
  show (Cond.laysStatic C n d).holds args s none s [] = true
  exact Cond.laysStatic_of h1 h2 h3 h4 h5 h6 h7 h8 h9
/-- .. and what it holds: null or some reference -/
def vx_Zq (C n d : String) (A : Nat → Prop) (U : State) (H : Heap) : Prop := va_Zq C n d A U H ∧ vx_L C n d A U H
theorem vx_Zq.moved {C n d : String} {A : Nat → Prop} {u U : State} {H : Heap} (hvm : u.vm.Alike U.vm) (h : vx_Zq C n d A u H) : vx_Zq C n d A U H := ⟨va_Zq.moved hvm h.1, vx_L.moved hvm h.2⟩
theorem vx_Zq.kept {C n d : String} {A : Nat → Prop} {U : State} {H H1 : Heap} (h : vx_Zq C n d A U H) (hq : ∀ a : Nat, a < H.size → ¬ A a → H1[a]? = H[a]?) : vx_Zq C n d A U H1 := ⟨va_Zq.kept h.1 hq, vx_L.kept h.2 hq⟩
theorem vx_Zq.narrow {C n d : String} {A B : Nat → Prop} {U : State} {H : Heap} (h : vx_Zq C n d A U H) (hAB : ∀ q, B q → A q) : vx_Zq C n d B U H := ⟨va_Zq.narrow h.1 hAB, vx_L.narrow h.2 hAB⟩
theorem vx_Zqof {args : Array Value} {s : State} {C n d : String} {A : Nat → Prop} (hl : (Cond.laysStatic C n d).before args s = true) (hini : (Cond.initialized C).before args s = true) (h : (Cond.isRef (.static C n d)).before args s = true) (hA : ∀ a : Nat, a < s.heap.size → ¬ A a) : vx_Zq C n d A s s.heap := by
  refine ⟨va_Zqof hl hini h hA, ?_⟩
  obtain ⟨c, k, i, f, a, cell, h1, h2, h3, h4, h5, h6, h7, h8, h9⟩ := Cond.laysStatic_spec hl
  exact ⟨c, k, i, f, a, cell, h1, h2, h3, h4, h5, h6, h7, h8, h9, hA a (Array.getElem?_eq_some_iff.mp h5).1⟩
theorem vx_isRef {C n d : String} {v : Value} {A : Nat → Prop} {s : State} {args : Array Value} (h : va_Z C n d v A s s.heap) (hv : v.isRef = true) : (Cond.isRef (.static C n d)).before args s = true := by
  obtain ⟨cf, kf, fi, f, a, cell, h1, h2, h3, h4, h5, h6, h7, -⟩ := h
  have he : (Term.static C n d).eval args s none [] s = some v := by
    simp [Term.eval, State.fieldNamed?, h1, h2, h4, h5, h6, h7]
  simp only [Cond.before, Cond.holds, Cond.value, he]
  cases v <;> simp_all [Value.isRef]
theorem vx_isRefq {C n d : String} {A : Nat → Prop} {s : State} {args : Array Value} (h : va_Zq C n d A s s.heap) : (Cond.isRef (.static C n d)).before args s = true := by
  rcases h with h | ⟨t, h⟩
  · exact vx_isRef h rfl
  · exact vx_isRef h rfl
/-- the same frame, seen from here: as if the method were called anew in this heap -/
theorem vx_rebase {T : State} (X : Stand p l e R s m args below meth c T locs cells slots) {R' : Room} (hf : R'.frames ≤ R.frames) (hl : R'.locals ≤ R.locals) (hc : cells + R'.cells ≤ R.cells) (hs : slots + R'.slots ≤ R.slots) :
    Stand p l e R' ((T.setVm s.vm).setFrames (.invoking m args :: below)) m args below meth c T [] 0 0 := by
  have htop : (T.setVm s.vm).topJava?.isSome := X.here.top
  have hF : ((T.setVm s.vm).setFrames (.invoking m args :: below)).frames = .invoking m args :: below := State.frames_setFrames _ (State.cur_lt_of_top htop)
  obtain ⟨g₀, hg0⟩ := Option.isSome_iff_exists.mp htop
  obtain ⟨r, hr⟩ := State.topJava?_eq_some.mp hg0
  have hl9 : e.platform.stackLimits (T.setVm s.vm).me = e.platform.stackLimits s.me := X.limits
  have hb9 : (T.setVm s.vm).me.stackBytes = s.me.stackBytes := X.bytes
  refine ⟨X.admits, X.cas, X.clock, hF, ?_, X.hears, X.method, X.code, X.here, X.tail, X.warmed, ?_, ?_, ?_⟩
  · have h := X.room
    have hU : ((T.setVm s.vm).setFrames (.invoking m args :: below)).localsInUse = s.localsInUse := by
      rw [State.localsInUse_invoking hF (meth := meth) (c := c) X.method X.code, State.localsInUse_invoking X.frames X.method X.code]
    simp only [State.hasRoom, Bool.and_eq_true, decide_eq_true_eq] at h ⊢
    obtain ⟨⟨⟨⟨h1, h2, h3, h4, h5, h6⟩, h7⟩, h8⟩, h9⟩ := h
    rw [X.frames, List.length_cons] at h2 h3
    have q1 := X.heapSize
    have q2 := X.used
    simp only [hF, hU, List.length_cons, State.stackLimits_setFrames, State.stackBytes_setFrames, hl9, hb9]
    refine ⟨⟨⟨⟨by omega, by omega, by omega, by omega, by omega, h6⟩, ?_⟩, ?_⟩, X.book⟩
    · show T.heap.size + R'.cells ≤ e.platform.maxCells
      omega
    · show T.slotsUsed + R'.slots ≤ e.platform.maxSlots
      omega
  · rw [State.stackLimits_setFrames]; rfl
  · rw [State.stackBytes_setFrames]; rfl
  · refine ⟨?_, Nat.le_refl _, Nat.le_refl _, ?_, ?_, fun a c9 h9 => ⟨c9, h9, rfl, rfl, fun _ _ => rfl⟩⟩
    · obtain ⟨t, ht, -⟩ := State.frames_cons hr
      show T.setVm s.vm = { ((T.setVm s.vm).setFrames (.invoking m args :: below)).setFrames (T.setVm s.vm).frames with heap := T.heap, slotsUsed := T.slotsUsed }
      rw [State.setFrames_setFrames, State.setFrames_self ht]
      rfl
    · show T.slotsUsed = T.slotsUsed + ((T.heap.toList.drop T.heap.size).map (·.slots.size)).sum
      rw [List.drop_eq_nil_of_le (Nat.le_of_eq Array.length_toList)]
      rfl
    · show ((T.heap.toList.drop T.heap.size).map (·.slots.size)).sum ≤ 0
      rw [List.drop_eq_nil_of_le (Nat.le_of_eq Array.length_toList)]
      exact Nat.le_refl _
/-- 'throw new E()': new; dup; invokespecial; athrow -/
theorem vx_throw0 {cc : ByteArray} {pc : Nat} (hexec : p.tables.exec = Jvm.exec) (hb : c.code = cc) (hl : l.stackTraces = false) {own cls : String} {names : List String} {ik ic mc ms : Nat} {A : Nat → Prop}
    (hown : s.vm.findClass own = some m.cls) (hcls : Bundle.fit cls = true) (hnames : ∀ n ∈ names, Bundle.fit n = true)
    (hk : (Cond.classLink own ik cls).before args s = true) (hini : (Cond.initialized cls).before args s = true) (hat : ∀ w ∈ vx_at0 own ic cls names, w.before args s = true)
    (hgood : ∀ w ∈ Cond.classLink own ik cls :: Cond.initialized cls :: vx_at0 own ic cls names, vx_ot w = true)
    (hU : vx_Zq Bundle.tN "UNASSIGNED_STACK" Bundle.steD A s s.heap) (hN : vx_Zq Bundle.tN "SUPPRESSED_SENTINEL" Bundle.listD A s s.heap) (hS : va_S A s.heap H locs) (hsize : ls.size = c.maxLocals)
    (d0 : decode cc pc = .ok (.new ik, 3)) (d3 : decode cc (pc + 3) = .ok (.dup, 1)) (d4 : decode cc (pc + 4) = .ok (.invokespecial ic, 3)) (d7 : decode cc (pc + 7) = .ok (.athrow, 1))
    (hout : ∀ x ∈ c.exceptionTable.toList, covers x (pc + 7) = false)
    (hRframes : names.length + 3 < R.frames) (hRlocals : (rest.map fun v => v.category).sum + (13 * (names.length + 1) + 42) ≤ R.locals) (hRcells : cells + 1 ≤ R.cells) (hRslots : slots + 6 ≤ R.slots) (hlocks : meth.locks = false)
    (hx : ∀ t : State, s.vm.Alike t.vm → H.size ≤ t.heap.size → (∀ q : Nat, q < H.size → t.heap[q]? = H[q]?) → XC cls s t)
    (hf : ∀ z ∈ locs, free z.base) (hc : cells + 1 ≤ mc) (hs : slots + 6 ≤ ms) :
    W p l e R s m args below meth c H locs cells slots (vx_MQ below Qc XC args s mc ms free) (F0 m pc ls rest) := by
  intro T hT X
  have htr : e.platform.stackTraces = false := (show e.platform.stackTraces = l.stackTraces by rw [X.admits.platform]).trans hl
  have Y := vx_rebase X (R' := { frames := R.frames, locals := R.locals, cells := 1, slots := 6 }) (Nat.le_refl _) (Nat.le_refl _) hRcells hRslots
  obtain ⟨s', hA⟩ : ∃ z, z = (T.setVm s.vm).setFrames (.invoking m args :: below) := ⟨_, rfl⟩
  rw [← hA] at Y
  have hvm : s'.vm = s.vm := by rw [hA]; rfl
  have hhp : s'.heap = H := by rw [hA]; exact hT
  have hW0 : s.WarmedH s'.vm := by rw [hvm]; exact State.WarmedH.refl s
  have hat' : ∀ w ∈ vx_at0 own ic cls names, w.before args s' = true := fun w hw => vx_ot_at hW0 hvm.symm (hgood w (List.mem_cons_of_mem _ (List.mem_cons_of_mem _ hw))) (hat w hw)
  have hk' : (Cond.classLink own ik cls).before args s' = true := vx_ot_at hW0 hvm.symm (hgood _ List.mem_cons_self) hk
  have hini' : (Cond.initialized cls).before args s' = true := vx_ot_at hW0 hvm.symm (hgood _ (List.mem_cons_of_mem _ List.mem_cons_self)) hini
  have hU' : vx_Zq Bundle.tN "UNASSIGNED_STACK" Bundle.steD A s' s'.heap := by rw [hhp]; exact vx_Zq.moved hW0.alike (hU.kept hS.2.1)
  have hN' : vx_Zq Bundle.tN "SUPPRESSED_SENTINEL" Bundle.listD A s' s'.heap := by rw [hhp]; exact vx_Zq.moved hW0.alike (hN.kept hS.2.1)
  have h : ∀ w ∈ Bundle.ownAtoms0 own ic cls names, w.before args s' = true := vx_own hat' (vx_isRefq hU'.1) (vx_isRefq hN'.1) hU'.2.word hN'.2.word
  have hown' : s'.vm.findClass own = some m.cls := by rw [hvm]; exact hown
  have hins : (Cond.instantiable cls 6).before args s' = true := h _ (by simp [Bundle.ownAtoms0])
  obtain ⟨vm₁, cX, kX, hfX, hkX, -, -, X₁, st1⟩ := Y.newCold hexec (own := own) (C := cls) (index := ik) (n := 6) hown' hk' hins hini'
    (g := F0 m pc ls rest) rfl (by rw [hb]; exact d0) (Nat.le_refl _) (Nat.le_refl _)
  generalize hT1 : (T.setVm vm₁).pushCell { cls := cX, slots := kX.instanceTypes.map defaultValue, vm := .none } = T1 at X₁ st1
  have hcat : (Value.ref T.heap.size).category = 1 := rfl
  have hcellA : T1.heap[T.heap.size]? = some (freshCell cX kX) := by rw [← hT1]; exact State.heap_pushCell_size _ _
  have d3' : decode c.code (pc + 3) = .ok (.dup, 1) := by rw [hb]; exact d3
  obtain ⟨U, hsteps, hrun, hend, hW, hsame, ce, hce, hO⟩ := X₁.ctorThrow0 hexec htr (own := own) (cls := cls) (names := names) (ic := ic) hown' hcls hnames h (fun x hx => nomatch hx) hfX hkX hcellA (by rw [hhp, hT]; exact Nat.le_refl _)
    (g := { method := m, pc := pc + 4, locals := ls, stack := .ref T.heap.size :: .ref T.heap.size :: rest, locked := none }) rfl hsize rfl rfl (rest := rest) rfl
    (by rw [hb]; exact d4) (by rw [hb]; exact d7) hout hRframes (by simp only [List.map_cons, List.sum_cons, hcat]; omega) hlocks
  obtain ⟨f1, f2⟩ := vx_frame hsame
  rw [hhp] at f1 f2
  have hWs : s.WarmedH U.vm := State.WarmedH.trans hW0 hW
  have hcl : s.vm.findClass cls = some ce.cls := by
    have h9 := hO.cls
    rw [hvm] at h9
    exact h9
  have hall : s.sameButNew ({ U with vm := s.vm } : State) locs mc ms := by
    subst hA
    obtain ⟨e1, e2⟩ := hsame
    rw [State.setFrames_setFrames] at e1
    have h2 : (T.setVm s.vm).sameButNew ({ U with vm := s.vm } : State) [] (0 + 1) (0 + 6) := ⟨e1, e2⟩
    have h3 := X.same.trans h2
    rw [List.append_nil] at h3
    exact h3.mono hc hs
  refine ⟨U, ?_, .threw T.heap.size, hrun, hend, Or.inr ⟨T.heap.size, rfl, cls, ce, locs, hx U hWs.alike f1 (fun q hq => f2 q hq (fun z hz => nomatch hz)), hce, hO.vm, hcl, hWs, hall, hf⟩⟩
  refine st1 _ ?_
  show Steps p.tables e below (T1.setTop { method := m, pc := pc + 3, locals := ls, stack := .ref T.heap.size :: rest, locked := none }) _
  jvm_step X₁.here [X₁.here.top, hexec, d3', Value.category]
  exact hsteps
/-- 'throw new E("text")': new; dup; ldc; invokespecial; athrow -/
theorem vx_throwS {cc : ByteArray} {pc : Nat} (hexec : p.tables.exec = Jvm.exec) (hb : c.code = cc) (hl : l.stackTraces = false) {own cls text : String} {names : List String} {ik is ic mc ms sa : Nat} {A : Nat → Prop}
    (hown : s.vm.findClass own = some m.cls) (hcls : Bundle.fit cls = true) (hnames : ∀ n ∈ names, Bundle.fit n = true)
    (hk : (Cond.classLink own ik cls).before args s = true) (hini : (Cond.initialized cls).before args s = true) (hstr : vk_R own is text sa s) (hat : ∀ w ∈ vx_atS own ic cls names, w.before args s = true)
    (hgood : ∀ w ∈ Cond.classLink own ik cls :: Cond.initialized cls :: vx_atS own ic cls names, vx_ot w = true)
    (hU : vx_Zq Bundle.tN "UNASSIGNED_STACK" Bundle.steD A s s.heap) (hN : vx_Zq Bundle.tN "SUPPRESSED_SENTINEL" Bundle.listD A s s.heap) (hS : va_S A s.heap H locs) (hsize : ls.size = c.maxLocals)
    (d0 : decode cc pc = .ok (.new ik, 3)) (d3 : decode cc (pc + 3) = .ok (.dup, 1)) (d4 : decode cc (pc + 4) = .ok (.ldc is, 2)) (d6 : decode cc (pc + 6) = .ok (.invokespecial ic, 3)) (d9 : decode cc (pc + 9) = .ok (.athrow, 1))
    (hout : ∀ x ∈ c.exceptionTable.toList, covers x (pc + 9) = false)
    (hRframes : names.length + 3 < R.frames) (hRlocals : (rest.map fun v => v.category).sum + (13 * (names.length + 1) + 43) ≤ R.locals) (hRcells : cells + 1 ≤ R.cells) (hRslots : slots + 6 ≤ R.slots) (hlocks : meth.locks = false)
    (hx : ∀ t : State, s.vm.Alike t.vm → H.size ≤ t.heap.size → (∀ q : Nat, q < H.size → t.heap[q]? = H[q]?) → XC cls s t)
    (hf : ∀ z ∈ locs, free z.base) (hc : cells + 1 ≤ mc) (hs : slots + 6 ≤ ms) :
    W p l e R s m args below meth c H locs cells slots (vx_MQ below Qc XC args s mc ms free) (F0 m pc ls rest) := by
  intro T hT X
  have htr : e.platform.stackTraces = false := (show e.platform.stackTraces = l.stackTraces by rw [X.admits.platform]).trans hl
  have Y := vx_rebase X (R' := { frames := R.frames, locals := R.locals, cells := 1, slots := 6 }) (Nat.le_refl _) (Nat.le_refl _) hRcells hRslots
  obtain ⟨s', hA⟩ : ∃ z, z = (T.setVm s.vm).setFrames (.invoking m args :: below) := ⟨_, rfl⟩
  rw [← hA] at Y
  have hvm : s'.vm = s.vm := by rw [hA]; rfl
  have hhp : s'.heap = H := by rw [hA]; exact hT
  have hW0 : s.WarmedH s'.vm := by rw [hvm]; exact State.WarmedH.refl s
  have hat' : ∀ w ∈ vx_atS own ic cls names, w.before args s' = true := fun w hw => vx_ot_at hW0 hvm.symm (hgood w (List.mem_cons_of_mem _ (List.mem_cons_of_mem _ hw))) (hat w hw)
  have hk' : (Cond.classLink own ik cls).before args s' = true := vx_ot_at hW0 hvm.symm (hgood _ List.mem_cons_self) hk
  have hini' : (Cond.initialized cls).before args s' = true := vx_ot_at hW0 hvm.symm (hgood _ (List.mem_cons_of_mem _ List.mem_cons_self)) hini
  have hU' : vx_Zq Bundle.tN "UNASSIGNED_STACK" Bundle.steD A s' s'.heap := by rw [hhp]; exact vx_Zq.moved hW0.alike (hU.kept hS.2.1)
  have hN' : vx_Zq Bundle.tN "SUPPRESSED_SENTINEL" Bundle.listD A s' s'.heap := by rw [hhp]; exact vx_Zq.moved hW0.alike (hN.kept hS.2.1)
  have h : ∀ w ∈ Bundle.ownAtoms own ic cls names, w.before args s' = true := vx_own hat' (vx_isRefq hU'.1) (vx_isRefq hN'.1) hU'.2.word hN'.2.word
  have hown' : s'.vm.findClass own = some m.cls := by rw [hvm]; exact hown
  have hins : (Cond.instantiable cls 6).before args s' = true := h _ (by simp [Bundle.ownAtoms])
  obtain ⟨vm₁, cX, kX, hfX, hkX, -, -, X₁, st1⟩ := Y.newCold hexec (own := own) (C := cls) (index := ik) (n := 6) hown' hk' hins hini'
    (g := F0 m pc ls rest) rfl (by rw [hb]; exact d0) (Nat.le_refl _) (Nat.le_refl _)
  generalize hT1 : (T.setVm vm₁).pushCell { cls := cX, slots := kX.instanceTypes.map defaultValue, vm := .none } = T1 at X₁ st1
  have hcat : (Value.ref T.heap.size).category = 1 := rfl
  have hcellA : T1.heap[T.heap.size]? = some (freshCell cX kX) := by rw [← hT1]; exact State.heap_pushCell_size _ _
  have d3' : decode c.code (pc + 3) = .ok (.dup, 1) := by rw [hb]; exact d3
  have d4' : decode c.code (pc + 4) = .ok (.ldc is, 2) := by rw [hb]; exact d4
  have hstr' : vk_R own is text sa s' := vk_R.warm hW0 hstr
  obtain ⟨U, hsteps, hrun, hend, hW, hsame, ce, hce, hO⟩ := X₁.ctorThrowS hexec htr (own := own) (cls := cls) (names := names) (ic := ic) hown' hcls hnames h (fun x hx => nomatch hx) hfX hkX hcellA (by rw [hhp, hT]; exact Nat.le_refl _) (msg := .ref sa) rfl
    (g := { method := m, pc := pc + 6, locals := ls, stack := .ref sa :: .ref T.heap.size :: .ref T.heap.size :: rest, locked := none }) rfl hsize rfl rfl (rest := rest) rfl
    (by rw [hb]; exact d6) (by rw [hb]; exact d9) hout hRframes (by simp only [List.map_cons, List.sum_cons, hcat]; omega) hlocks
  obtain ⟨f1, f2⟩ := vx_frame hsame
  rw [hhp] at f1 f2
  have hWs : s.WarmedH U.vm := State.WarmedH.trans hW0 hW
  have hcl : s.vm.findClass cls = some ce.cls := by
    have h9 := hO.cls
    rw [hvm] at h9
    exact h9
  have hall : s.sameButNew ({ U with vm := s.vm } : State) locs mc ms := by
    subst hA
    obtain ⟨e1, e2⟩ := hsame
    rw [State.setFrames_setFrames] at e1
    have h2 : (T.setVm s.vm).sameButNew ({ U with vm := s.vm } : State) [] (0 + 1) (0 + 6) := ⟨e1, e2⟩
    have h3 := X.same.trans h2
    rw [List.append_nil] at h3
    exact h3.mono hc hs
  refine ⟨U, ?_, .threw T.heap.size, hrun, hend, Or.inr ⟨T.heap.size, rfl, cls, ce, locs, hx U hWs.alike f1 (fun q hq => f2 q hq (fun z hz => nomatch hz)), hce, hO.vm, hcl, hWs, hall, hf⟩⟩
  refine st1 _ ?_
  show Steps p.tables e below (T1.setTop { method := m, pc := pc + 3, locals := ls, stack := .ref T.heap.size :: rest, locked := none }) _
  jvm_step X₁.here [X₁.here.top, hexec, d3', Value.category]
  exact X₁.ldcString hexec (own := own) (text := text) (index := is) (a := sa) hown' hstr'.1 hstr'.2
    (g := { method := m, pc := pc + 4, locals := ls, stack := .ref T.heap.size :: .ref T.heap.size :: rest, locked := none }) rfl d4' _ hsteps
/-- 'throw new E("text")', the text by a wide index -/
theorem vx_throwSW {cc : ByteArray} {pc : Nat} (hexec : p.tables.exec = Jvm.exec) (hb : c.code = cc) (hl : l.stackTraces = false) {own cls text : String} {names : List String} {ik is ic mc ms sa : Nat} {A : Nat → Prop}
    (hown : s.vm.findClass own = some m.cls) (hcls : Bundle.fit cls = true) (hnames : ∀ n ∈ names, Bundle.fit n = true)
    (hk : (Cond.classLink own ik cls).before args s = true) (hini : (Cond.initialized cls).before args s = true) (hstr : vk_R own is text sa s) (hat : ∀ w ∈ vx_atS own ic cls names, w.before args s = true)
    (hgood : ∀ w ∈ Cond.classLink own ik cls :: Cond.initialized cls :: vx_atS own ic cls names, vx_ot w = true)
    (hU : vx_Zq Bundle.tN "UNASSIGNED_STACK" Bundle.steD A s s.heap) (hN : vx_Zq Bundle.tN "SUPPRESSED_SENTINEL" Bundle.listD A s s.heap) (hS : va_S A s.heap H locs) (hsize : ls.size = c.maxLocals)
    (d0 : decode cc pc = .ok (.new ik, 3)) (d3 : decode cc (pc + 3) = .ok (.dup, 1)) (d4 : decode cc (pc + 4) = .ok (.ldc_w is, 3)) (d7 : decode cc (pc + 7) = .ok (.invokespecial ic, 3)) (d10 : decode cc (pc + 10) = .ok (.athrow, 1))
    (hout : ∀ x ∈ c.exceptionTable.toList, covers x (pc + 10) = false)
    (hRframes : names.length + 3 < R.frames) (hRlocals : (rest.map fun v => v.category).sum + (13 * (names.length + 1) + 43) ≤ R.locals) (hRcells : cells + 1 ≤ R.cells) (hRslots : slots + 6 ≤ R.slots) (hlocks : meth.locks = false)
    (hx : ∀ t : State, s.vm.Alike t.vm → H.size ≤ t.heap.size → (∀ q : Nat, q < H.size → t.heap[q]? = H[q]?) → XC cls s t)
    (hf : ∀ z ∈ locs, free z.base) (hc : cells + 1 ≤ mc) (hs : slots + 6 ≤ ms) :
    W p l e R s m args below meth c H locs cells slots (vx_MQ below Qc XC args s mc ms free) (F0 m pc ls rest) := by
  intro T hT X
  have htr : e.platform.stackTraces = false := (show e.platform.stackTraces = l.stackTraces by rw [X.admits.platform]).trans hl
  have Y := vx_rebase X (R' := { frames := R.frames, locals := R.locals, cells := 1, slots := 6 }) (Nat.le_refl _) (Nat.le_refl _) hRcells hRslots
  obtain ⟨s', hA⟩ : ∃ z, z = (T.setVm s.vm).setFrames (.invoking m args :: below) := ⟨_, rfl⟩
  rw [← hA] at Y
  have hvm : s'.vm = s.vm := by rw [hA]; rfl
  have hhp : s'.heap = H := by rw [hA]; exact hT
  have hW0 : s.WarmedH s'.vm := by rw [hvm]; exact State.WarmedH.refl s
  have hat' : ∀ w ∈ vx_atS own ic cls names, w.before args s' = true := fun w hw => vx_ot_at hW0 hvm.symm (hgood w (List.mem_cons_of_mem _ (List.mem_cons_of_mem _ hw))) (hat w hw)
  have hk' : (Cond.classLink own ik cls).before args s' = true := vx_ot_at hW0 hvm.symm (hgood _ List.mem_cons_self) hk
  have hini' : (Cond.initialized cls).before args s' = true := vx_ot_at hW0 hvm.symm (hgood _ (List.mem_cons_of_mem _ List.mem_cons_self)) hini
  have hU' : vx_Zq Bundle.tN "UNASSIGNED_STACK" Bundle.steD A s' s'.heap := by rw [hhp]; exact vx_Zq.moved hW0.alike (hU.kept hS.2.1)
  have hN' : vx_Zq Bundle.tN "SUPPRESSED_SENTINEL" Bundle.listD A s' s'.heap := by rw [hhp]; exact vx_Zq.moved hW0.alike (hN.kept hS.2.1)
  have h : ∀ w ∈ Bundle.ownAtoms own ic cls names, w.before args s' = true := vx_own hat' (vx_isRefq hU'.1) (vx_isRefq hN'.1) hU'.2.word hN'.2.word
  have hown' : s'.vm.findClass own = some m.cls := by rw [hvm]; exact hown
  have hins : (Cond.instantiable cls 6).before args s' = true := h _ (by simp [Bundle.ownAtoms])
  obtain ⟨vm₁, cX, kX, hfX, hkX, -, -, X₁, st1⟩ := Y.newCold hexec (own := own) (C := cls) (index := ik) (n := 6) hown' hk' hins hini'
    (g := F0 m pc ls rest) rfl (by rw [hb]; exact d0) (Nat.le_refl _) (Nat.le_refl _)
  generalize hT1 : (T.setVm vm₁).pushCell { cls := cX, slots := kX.instanceTypes.map defaultValue, vm := .none } = T1 at X₁ st1
  have hcat : (Value.ref T.heap.size).category = 1 := rfl
  have hcellA : T1.heap[T.heap.size]? = some (freshCell cX kX) := by rw [← hT1]; exact State.heap_pushCell_size _ _
  have d3' : decode c.code (pc + 3) = .ok (.dup, 1) := by rw [hb]; exact d3
  have d4' : decode c.code (pc + 4) = .ok (.ldc_w is, 3) := by rw [hb]; exact d4
  have hstr' : vk_R own is text sa s' := vk_R.warm hW0 hstr
  obtain ⟨U, hsteps, hrun, hend, hW, hsame, ce, hce, hO⟩ := X₁.ctorThrowS hexec htr (own := own) (cls := cls) (names := names) (ic := ic) hown' hcls hnames h (fun x hx => nomatch hx) hfX hkX hcellA (by rw [hhp, hT]; exact Nat.le_refl _) (msg := .ref sa) rfl
    (g := { method := m, pc := pc + 7, locals := ls, stack := .ref sa :: .ref T.heap.size :: .ref T.heap.size :: rest, locked := none }) rfl hsize rfl rfl (rest := rest) rfl
    (by rw [hb]; exact d7) (by rw [hb]; exact d10) hout hRframes (by simp only [List.map_cons, List.sum_cons, hcat]; omega) hlocks
  obtain ⟨f1, f2⟩ := vx_frame hsame
  rw [hhp] at f1 f2
  have hWs : s.WarmedH U.vm := State.WarmedH.trans hW0 hW
  have hcl : s.vm.findClass cls = some ce.cls := by
    have h9 := hO.cls
    rw [hvm] at h9
    exact h9
  have hall : s.sameButNew ({ U with vm := s.vm } : State) locs mc ms := by
    subst hA
    obtain ⟨e1, e2⟩ := hsame
    rw [State.setFrames_setFrames] at e1
    have h2 : (T.setVm s.vm).sameButNew ({ U with vm := s.vm } : State) [] (0 + 1) (0 + 6) := ⟨e1, e2⟩
    have h3 := X.same.trans h2
    rw [List.append_nil] at h3
    exact h3.mono hc hs
  refine ⟨U, ?_, .threw T.heap.size, hrun, hend, Or.inr ⟨T.heap.size, rfl, cls, ce, locs, hx U hWs.alike f1 (fun q hq => f2 q hq (fun z hz => nomatch hz)), hce, hO.vm, hcl, hWs, hall, hf⟩⟩
  refine st1 _ ?_
  show Steps p.tables e below (T1.setTop { method := m, pc := pc + 3, locals := ls, stack := .ref T.heap.size :: rest, locked := none }) _
  jvm_step X₁.here [X₁.here.top, hexec, d3', Value.category]
  exact X₁.ldcStringW hexec (own := own) (text := text) (index := is) (a := sa) hown' hstr'.1 hstr'.2
    (g := { method := m, pc := pc + 4, locals := ls, stack := .ref T.heap.size :: .ref T.heap.size :: rest, locked := none }) rfl d4' _ hsteps
end Ends
section Bodies
variable {l : Launch}
theorem vx_ofW {y : MethodName} {ws ws' : List Cond} {rm : Room} {Pc : Array Value → State → Prop} {Qc : Array Value → State → Outcome → State → Prop} {XC : String → State → State → Prop} {mc ms : Nat} {free : Addr → Prop} {cc : ByteArray} {maxL : Nat} {ret : Option FieldType}
    (hy : plainName y.cls = true) (hw : ws = Cond.code y cc maxL ret :: ws')
    (body : ∀ p e s m args below meth c s₁, BodyLoose p l y (headSpec ws rm) cc maxL ret e s m args below meth c s₁ → c.maxLocals = maxL → (∀ x ∈ c.exceptionTable.toList, False) → Pc args s →
      W p l e (headSpec ws rm).room s m args below meth c s.heap [] 0 0 (vx_MQ below Qc XC args s mc ms free) (entryFrame m args maxL)) : vx_Met l y ws rm Pc Qc XC mc ms free := by
  refine MetFree.of_bodyS (code := cc) (maxLocals := maxL) (ret := ret) hy ?_ ?_
  · intro args s m h hn
    obtain ⟨meth, c, h1, h2, h3, h4, h5, h6, -, -⟩ := Cond.code_spec hn (atoms_spec (ws := ws) h _ (by rw [hw]; exact List.mem_cons_self))
    exact ⟨meth, c, h1, h2, h3, h4, h5, h6⟩
  · intro p e s m args below meth c s₁ B hml hP _
    have hh0 : s₁.heap = s.heap := by rw [B.state]; rfl
    have ht : ∀ x ∈ c.exceptionTable.toList, False := by
      obtain ⟨meth9, c9, h1, h2, -, -, -, -, h7, -⟩ := Cond.code_spec B.named (atoms_spec (ws := ws) B.pre _ (by rw [hw]; exact List.mem_cons_self))
      cases Option.some.inj (h1.symm.trans B.method)
      cases Option.some.inj (h2.symm.trans (Stand.of_body B).code)
      intro x hx
      rw [Array.isEmpty_iff.mp h7] at hx
      cases hx
    obtain ⟨t, a1, o, b1, b2, b3⟩ := body p e s m args below meth c s₁ B hml ht hP s₁ hh0 (Stand.of_body B)
    exact ⟨t, o, a1, b1, b2, b3⟩
/-- the table of a body with handlers -/
theorem vx_table {p : Program} {x y : MethodName} {S : Spec} {cc bytes : ByteArray} {maxL maxL' : Nat} {ret ret' : Option FieldType} {e : Env} {s s₁ : State} {m : MethodId} {args : Array Value} {below : List Frame} {meth : Method} {c : Code} {hh : List (Nat × Nat × Nat × Nat)}
    (B : BodyLoose p l y S cc maxL ret e s m args below meth c s₁) (h : (Cond.codeWith y bytes maxL' ret' hh).before args s = true) : c.exceptionTable.toList = tableOf hh := by
  obtain ⟨m9, meth9, c9, hn9, h1, h2, -, -, h6, -⟩ := Cond.codeWith_spec h
  cases Option.some.inj (hn9.symm.trans B.named)
  cases Option.some.inj (h1.symm.trans B.method)
  cases Option.some.inj (h2.symm.trans (Stand.of_body B).code)
  rw [← h6, table_eq]
end Bodies
end VXA
/-! ===== END ===== -/
/-! ===== BEGIN a static call of a method with an exception table ===== -/
section VXS
variable {p : Program} {l : Launch} {e : Env} {R : Room} {s : State} {m : MethodId} {args : Array Value} {below : List Frame} {meth : Method} {c : Code} {T : State} {H : Heap} {locs : List Loc} {cells slots : Nat}
abbrev vx_CSW (R : Room) (s : State) (args : Array Value) (own : String) (index : Nat) (y : MethodName) (bytes : ByteArray) (maxL : Nat) (ret : Option FieldType) (hh : List (Nat × Nat × Nat × Nat)) (ws : List Cond) (rm : Room) (mc ms n : Nat) : Prop :=
  (rm.cells = mc ∧ rm.slots = ms ∧ rm.frames + 1 ≤ R.frames ∧ 8 + (maxL + 11) + rm.locals ≤ R.locals ∧ (∀ w ∈ ws, ∀ (a' : Array Value) (U : State), s.WarmedH U.vm → w.before a' U = true) ∧ Cond.codeWith y bytes maxL ret hh ∈ ws) ∧
  (Cond.codeWith y bytes maxL ret hh).before args s = true ∧ (Cond.initialized y.cls).before args s = true ∧ (y.cls ≠ "java/lang/invoke/MethodHandle" ∧ y.cls ≠ "java/lang/invoke/VarHandle") ∧
  (∀ sig, parseMethodDescriptor y.desc = some sig → n = sig.parameters.length) ∧ (Cond.methodLink own index y).before args s = true ∧ (Cond.static y).before args s = true
theorem vx_cwSW {own : String} {index maxL mc ms : Nat} {y : MethodName} {bytes : ByteArray} {ret : Option FieldType} {hh : List (Nat × Nat × Nat × Nat)} {Ts ws ws' : List Cond} {rm : Room} (n : Nat) (ht : ∀ w ∈ Ts, w.before args s = true) (hT : GoodIn Ts (va_wsS own index y ws)) (hw : ws = Cond.codeWith y bytes maxL ret hh :: ws') (hrc : rm.cells = mc) (hrs : rm.slots = ms)
    (hd : y.cls ≠ "java/lang/invoke/MethodHandle" ∧ y.cls ≠ "java/lang/invoke/VarHandle" ∧ (parseMethodDescriptor y.desc).map (fun d => d.parameters.length) = some n) (hR : rm.frames + 1 ≤ R.frames ∧ 8 + (maxL + 11) + rm.locals ≤ R.locals) :
    vx_CSW R s args own index y bytes maxL ret hh ws rm mc ms n := by
  have ok : ∀ w ∈ va_wsS own index y ws, w.before args s = true := fun w h => ht w (hT w h).1
  have hG : GoodIn Ts ws := fun w h => hT w (by unfold va_wsS; exact List.mem_append_right _ h)
  have hc : Cond.codeWith y bytes maxL ret hh ∈ ws := by rw [hw]; exact List.mem_cons_self
  refine ⟨⟨hrc, hrs, hR.1, hR.2, pay_in ht hG, hc⟩, ht _ (hG _ hc).1, ok _ (by simp [va_wsS]), ⟨hd.1, hd.2.1⟩, fun sig h => ?_, ok _ (by simp [va_wsS]), ok _ (by simp [va_wsS])⟩
  have h2 := hd.2.2
  rw [h] at h2
  exact (Option.some.inj h2).symm
theorem vx_callSW (X : Stand p l e R s m args below meth c T locs cells slots) (hexec : p.tables.exec = Jvm.exec) {own : String} {index : Nat} {y : MethodName} {bytes : ByteArray} {maxL : Nat} {ret : Option FieldType} {hh : List (Nat × Nat × Nat × Nat)}
    (hown : s.vm.findClass own = some m.cls) (hlink : (Cond.methodLink own index y).before args s = true) (hstat : (Cond.static y).before args s = true) (hinit : (Cond.initialized y.cls).before args s = true)
    (hcode : (Cond.codeWith y bytes maxL ret hh).before args s = true) (hy : y.cls ≠ "java/lang/invoke/MethodHandle" ∧ y.cls ≠ "java/lang/invoke/VarHandle")
    {W9 : Nat} {Pre : Pt → Array Value → Prop} {Post : Pt → Array Value → Option Value → Pt → Prop} (hK : Back l R p e below s args y 3 W9 Pre Post)
    {g : JFrame} (hg : g.method = m) (hsize : g.locals.size = c.maxLocals) {argsL rest : List Value} (hlen : ∀ sig, parseMethodDescriptor y.desc = some sig → argsL.length = sig.parameters.length)
    (hstack : g.stack = argsL.reverse ++ rest) (hW : 2 * g.monitorRoom + (rest.map fun v => v.category).sum ≤ W9) (hdg : decode c.code g.pc = .ok (.invokestatic index, 3))
    (hpre : ∀ vm₁, s.WarmedH vm₁ → Pre ⟨T.setVm vm₁, locs, cells, slots⟩ argsL.toArray) :
    ∃ (v : Option Value) (vm₁ : Vm) (B : Pt), s.WarmedH vm₁ ∧ Stand p l e R s m args below meth c B.U B.locs B.cells B.slots ∧ Post ⟨T.setVm vm₁, locs, cells, slots⟩ argsL.toArray v B ∧
      ∀ target, Steps p.tables e below (B.U.setTop { g with pc := g.pc + 3, stack := v.toList ++ rest }) target → Steps p.tables e below (T.setTop g) target := by
  obtain ⟨mk, methM, cM, hnamed, hmethM, -, -, -, -, -, -, hsigM⟩ := Cond.codeWith_spec hcode
  have hstatic : methM.isStatic = true := Cond.static_spec hnamed hmethM hstat
  obtain ⟨kP, hkP, -⟩ := className_of_methodNamed hnamed
  have hinitP : kP.init = .initialized := Cond.initialized_spec (findClass_of_methodNamed hnamed) hkP hinit
  obtain ⟨vm₁, X₁, hstep₁⟩ := X.invokestatic hexec hown hlink hnamed hmethM hstatic hkP hinitP hy (g := g) hg (argsL := argsL) (rest := rest) (hlen _ hsigM) hstack hdg
  obtain ⟨v, B, X', hpost, hsteps⟩ := hK m meth c ⟨T.setVm vm₁, locs, cells, slots⟩ { g with stack := rest } (.invokestatic index) mk argsL.toArray X₁ hg hsize hdg hW (X₁.named hnamed) (hpre vm₁ X₁.warmed)
  exact ⟨v, vm₁, B, X₁.warmed, X', hpost, fun target h => hstep₁ _ fun acts => by rw [doInvoke_state]; exact hsteps.trans h⟩
theorem vx_runSW {y : MethodName} {bytes cc : ByteArray} {maxL nL mc ms n index : Nat} {ret : Option FieldType} {hh : List (Nat × Nat × Nat × Nat)} {ws : List Cond} {rm : Room} {Pc : Array Value → State → Prop} {Qc : Array Value → State → Outcome → State → Prop} {free : Addr → Prop} {Ts : List Cond} {own : String} {As rest : List Value} {g : JFrame}
    (S : CallFix p m c cc nL s args Ts own) (hM : Met l y ws rm Pc Qc mc ms free) (cw : vx_CSW R s args own index y bytes maxL ret hh ws rm mc ms n) (hp : PreS s H Pc As)
    (hg : g.method = m) (hn : As.length = n) (hsize : g.locals.size = nL) (hstack : g.stack = As.reverse ++ rest) (hW : 2 * g.monitorRoom + (rest.map fun v => v.category).sum ≤ 8) (hdg : decode cc g.pc = .ok (.invokestatic index, 3)) (hf : cells + mc ≤ R.cells ∧ slots + ms ≤ R.slots) :
    va_Run p l e R s m args below meth c H locs cells slots mc ms g rest (Qc As.toArray) (free) := by
  obtain ⟨⟨hrc, hrs, hfr, hlo, hws, hcw⟩, hcode, hini, hy, hlen, hl, hstt⟩ := cw
  have hK : Back l R p e below s args y 3 8 (PreOf R mc ms Pc) (PostOf Qc mc ms free) := va_backW (hh := hh) (bytes := bytes) (maxL := maxL) (ret := ret) hM hp.1 hrc hrs hfr hlo hws hcw (fun a' U hW => word_at hW (Or.inl (by first | rfl | simp [Cond.onTables, Cond.keeps, Cond.steady])) hini)
  obtain ⟨hx, hb, hml, ho, -⟩ := S
  intro T hT X
  obtain ⟨v, vm₁, ⟨U', l2, c2, s2⟩, hW₁, X', ⟨g', mk, t, L, e1, e2, hq, h1, hL, h2, h3⟩, st⟩ := vx_callSW X hx (hh := hh) (bytes := bytes) (maxL := maxL) (ret := ret) ho hl hstt hini hcode hy hK hg (hsize.trans hml.symm) (argsL := As) (rest := rest) (fun sig h => hn.trans (hlen sig h)) hstack hW (by rw [hb]; exact hdg)
    (fun vm₁ hW₁ => ⟨hf.1, hf.2, hp.2 (T.setVm vm₁) hT hW₁⟩)
  dsimp only [Pt.U, Pt.locs, Pt.cells, Pt.slots] at X' e1 e2 h1 h2 h3 st
  subst h1; subst h2; subst h3
  exact ⟨v, (T.setVm vm₁).calling g' mk As.toArray, t, U', L, hT, X', hL, e1, e2, hq, st⟩
/-- a thing of a world lies in the heap -/
theorem vx_lt {D : va_G} {cl : List vw_C} {ws : va_W} {H1 : Heap} (h : va_P D cl ws H1) {k : Nat} {q : Nat × va_E} (hk : ws[k]? = some q) : q.1 < H1.size := (h k q hk).lt
end VXS
/-! ===== END ===== -/
/-! ===== BEGIN methods with a table of their own: called by a name, returning or throwing ===== -/
section VXH
/-! vx_backW, vx_callVX, vx_callSX, vx_callVW, vx_runVW, vx_runVX, vx_runSX, vx_ofWH follow the same proofs as their sisters above (Free/Laws.lean, Shelf42/LK1.lean); vx_outP calls Shelf42/NT130.lean (outThrough). -/
section
variable {l : Launch} {R : Room} {p : Program} {e : Env} {below : List Frame} {s : State} {sargs : Array Value} {y : MethodName} {len W9 : Nat}
theorem vx_backW {ws : List Cond} {rm : Room} {Pc : Array Value → State → Prop} {Qc : Array Value → State → Outcome → State → Prop} {XC : String → State → State → Prop} {mc ms : Nat} {free : Addr → Prop} {bytes : ByteArray} {maxL : Nat} {ret : Option FieldType} {hh : List (Nat × Nat × Nat × Nat)}
    (hM : vx_Met l y ws rm Pc Qc XC mc ms free) (hblind : FrameBlind Pc) (hrc : rm.cells = mc) (hrs : rm.slots = ms)
    (hframes : rm.frames + 1 ≤ R.frames) (hlocals : W9 + (maxL + 11) + rm.locals ≤ R.locals)
    (hws : ∀ w ∈ ws, ∀ a' U, s.WarmedH U.vm → w.before a' U = true) (hcode : Cond.codeWith y bytes maxL ret hh ∈ ws) (hinit : ∀ a' U, s.WarmedH U.vm → (Cond.initialized y.cls).before a' U = true) :
    vx_Back l R p e below s sargs y len W9 (PreOf R mc ms Pc) (PostOf Qc mc ms free) (vx_Post XC mc ms free) := by
  intro m meth c A g ig mk a X hg hsize hdg hW hn hp
  have h1 : (headSpec ws rm).pre.before a A.U = true := atoms_intro fun w hw => hws w hw _ _ X.warmed
  have h2 : (Cond.codeWith y bytes maxL ret hh).before a A.U = true := hws _ hcode _ _ X.warmed
  have h3 : (Cond.initialized y.cls).before a A.U = true := hinit _ _ X.warmed
  have h4 : A.cells + (headSpec ws rm).room.cells ≤ R.cells := by rw [show (headSpec ws rm).room.cells = mc from hrc]; exact hp.1
  have h5 : A.slots + (headSpec ws rm).room.slots ≤ R.slots := by rw [show (headSpec ws rm).room.slots = ms from hrs]; exact hp.2.1
  have hPc : Pc a (A.U.calling g mk a) := hblind _ _ _ _ hp.2.2
  obtain ⟨U, Ls, c0, s0⟩ := A
  dsimp only [Pt.U, Pt.locs, Pt.cells, Pt.slots] at h1 h2 h3 h4 h5 X hn hPc ⊢
  obtain ⟨m9, methY, cY, hn9, hmY, hcY, -, hlY, -⟩ := Cond.codeWith_spec h2
  cases Option.some.inj (hn9.symm.trans hn)
  obtain ⟨kY, hkY, -⟩ := className_of_methodNamed hn
  have hinitY : kY.init = .initialized := Cond.initialized_spec (findClass_of_methodNamed hn) hkY h3
  have h : At U g.method c below := by rw [hg]; exact X.here
  have hlocals9 : W9 + (maxL + 11) + (headSpec ws rm).room.locals ≤ R.locals := hlocals
  have happ : (headSpec ws rm).appliesLoose y e.platform (U.calling g mk a) = true :=
    Spec.appliesLoose_calling (g := g) h hdg hn hkY hinitY
      (X.room_calling (g := g) (R' := (headSpec ws rm).room) hsize hmY hcY hframes (by rw [hlY]; omega) h4 h5) h1
  obtain ⟨mid, hmid⟩ := h.above
  have hfr : (U.setTop g).frames = (.java g :: mid) ++ below := by rw [State.frames_setTop' g h.top, hmid]; rfl
  obtain ⟨o, s₂, hsteps, -, hend, hq⟩ := Steps.callFree hM p X.admits X.cas X.clock (acts := []) hfr happ hPc trivial
  have hq' : vx_Q Qc XC mc ms free a (U.calling g mk a) o s₂ := hq
  rw [State.frames_setTop' g h.top] at hend
  obtain ⟨g₀, hg0⟩ := Option.isSome_iff_exists.mp h.top
  obtain ⟨r, hr⟩ := State.topJava?_eq_some.mp hg0
  have hr' : (({ U with heap := s₂.heap, slotsUsed := s₂.slotsUsed } : State).setVm s₂.vm).frames = .java g₀ :: r := hr
  rcases hq' with ⟨hqc, L, hfe, hL⟩ | ⟨q, rfl, E, ce, L, hx, hce, hcv, hcl, hW₂, hsm, hL⟩
  · obtain ⟨⟨v, rfl⟩, hW₂, e2, q2, q3, q4, q5, q6⟩ := id hfe
    have e3 : s₂ = ({ (U.calling g mk a).setFrames s₂.frames with heap := s₂.heap, slotsUsed := s₂.slotsUsed } : State).setVm s₂.vm := by
      have : s₂ = ({ s₂ with vm := (U.calling g mk a).vm } : State).setVm s₂.vm := rfl
      rw [e2] at this
      exact this
    obtain ⟨c₂, i₂, len₂, hc₂, hd₂, hf₂⟩ := hend
    have hW' : U.WarmedH s₂.vm := hW₂
    have hcc : c₂ = c := by
      have h1 : s₂.code? g.method = U.code? g.method := by
        rw [State.code?_eq, State.code?_eq, hW'.alike.method?]
      exact Option.some.inj (hc₂.symm.trans (h1.trans h.code))
    subst hcc
    have hlen : len₂ = len := by rw [hdg] at hd₂; cases hd₂; rfl
    subst hlen
    have hs₂ : s₂ = (({ U with heap := s₂.heap, slotsUsed := s₂.slotsUsed } : State).setVm s₂.vm).setTop { g with pc := g.pc + len₂, stack := v.toList ++ g.stack } := by
      refine e3.trans ?_
      rw [hf₂, State.calling_eq h.top, State.setFrames_setFrames, State.setTop_of_frames _ hr', hr]
      rfl
    have hsame : U.sameButNew ({ U with heap := s₂.heap, slotsUsed := s₂.slotsUsed } : State) L mc ms := by
      refine ⟨?_, q2, q3, q4, q5, q6⟩
      obtain ⟨t, ht, -⟩ := State.frames_cons hr
      show ({ U with heap := s₂.heap, slotsUsed := s₂.slotsUsed } : State) = { U.setFrames U.frames with heap := s₂.heap, slotsUsed := s₂.slotsUsed }
      rw [State.setFrames_self ht]
    subst hg
    refine Or.inl ⟨v, ⟨(({ U with heap := s₂.heap, slotsUsed := s₂.slotsUsed } : State).setVm s₂.vm), Ls ++ L, c0 + mc, s0 + ms⟩,
      ⟨X.admits, X.cas, X.clock, X.frames, X.room, X.hears, X.method, X.code, (X.here.setHeapUsed s₂.heap s₂.slotsUsed).setVm hW'.alike, X.tail, State.WarmedH.trans X.warmed hW', X.limits, X.bytes, X.same.trans (hsame.setVm s.vm)⟩,
      ⟨g, mk, s₂, L, rfl, rfl, hqc, rfl, hL, rfl, rfl⟩, ?_⟩
    show Steps p.tables e below _ ((({ U with heap := s₂.heap, slotsUsed := s₂.slotsUsed } : State).setVm s₂.vm).setTop { g with pc := g.pc + len₂, stack := v.toList ++ g.stack })
    rw [← hs₂]
    exact hsteps
  · obtain ⟨e2, q2, q3, q4, q5, q6⟩ := id hsm
    have e3 : s₂ = ({ (U.calling g mk a).setFrames s₂.frames with heap := s₂.heap, slotsUsed := s₂.slotsUsed } : State).setVm s₂.vm := by
      have : s₂ = ({ s₂ with vm := (U.calling g mk a).vm } : State).setVm s₂.vm := rfl
      rw [e2] at this
      exact this
    have hf₂ : s₂.frames = .throwing q :: .java g :: U.frames.tail := hend
    have hW' : U.WarmedH s₂.vm := hW₂
    have hs₂ : s₂ = ((({ U with heap := s₂.heap, slotsUsed := s₂.slotsUsed } : State).setVm s₂.vm).setTop g).pushFrame (.throwing q) := by
      refine e3.trans ?_
      rw [hf₂, State.calling_eq h.top, State.setFrames_setFrames, State.pushFrame, State.frames_setTop _ hr', State.setTop_of_frames _ hr', State.setFrames_setFrames, hr]
      rfl
    have hsame : U.sameButNew ({ U with heap := s₂.heap, slotsUsed := s₂.slotsUsed } : State) L mc ms := by
      refine ⟨?_, q2, q3, q4, q5, q6⟩
      obtain ⟨t, ht, -⟩ := State.frames_cons hr
      show ({ U with heap := s₂.heap, slotsUsed := s₂.slotsUsed } : State) = { U.setFrames U.frames with heap := s₂.heap, slotsUsed := s₂.slotsUsed }
      rw [State.setFrames_self ht]
    subst hg
    refine Or.inr ⟨q, ⟨(({ U with heap := s₂.heap, slotsUsed := s₂.slotsUsed } : State).setVm s₂.vm), Ls ++ L, c0 + mc, s0 + ms⟩,
      ⟨X.admits, X.cas, X.clock, X.frames, X.room, X.hears, X.method, X.code, (X.here.setHeapUsed s₂.heap s₂.slotsUsed).setVm hW'.alike, X.tail, State.WarmedH.trans X.warmed hW', X.limits, X.bytes, X.same.trans (hsame.setVm s.vm)⟩,
      ⟨g, mk, s₂, L, E, ce, rfl, rfl, hx, hce, hcv, hcl, rfl, hL, rfl, rfl⟩, ?_⟩
    show Steps p.tables e below _ (((({ U with heap := s₂.heap, slotsUsed := s₂.slotsUsed } : State).setVm s₂.vm).setTop g).pushFrame (.throwing q))
    rw [← hs₂]
    exact hsteps
end
variable {p : Program} {l : Launch} {e : Env} {R : Room} {s : State} {m : MethodId} {args : Array Value} {below : List Frame} {meth : Method} {c : Code} {T : State} {H : Heap} {locs : List Loc} {cells slots : Nat}
theorem vx_callVX (X : Stand p l e R s m args below meth c T locs cells slots) (hexec : p.tables.exec = Jvm.exec) {own C : String} {index : Nat} {y : MethodName} {bytes : ByteArray} {maxL : Nat} {ret : Option FieldType} {hh : List (Nat × Nat × Nat × Nat)}
    (hown : s.vm.findClass own = some m.cls) (hlink : (Cond.methodLink own index y).before args s = true) (hinst : (Cond.instanceMethod y).before args s = true) (hsel : (Cond.selects C y y).before args s = true)
    (hcode : (Cond.codeWith y bytes maxL ret hh).before args s = true) (hy : y.cls ≠ "java/lang/invoke/MethodHandle" ∧ y.cls ≠ "java/lang/invoke/VarHandle")
    {W9 : Nat} {Pre : Pt → Array Value → Prop} {Post : Pt → Array Value → Option Value → Pt → Prop} {PostX : Pt → Array Value → Addr → Pt → Prop} (hK : vx_Back l R p e below s args y 3 W9 Pre Post PostX)
    {b : Addr} {cellB : Cell} (hcell : T.heap[b]? = some cellB) (hobj : cellB.vm.isStatics = false) (hcls : s.vm.findClass C = some cellB.cls)
    {g : JFrame} (hg : g.method = m) (hsize : g.locals.size = c.maxLocals) {argsL rest : List Value} (hlen : ∀ sig, parseMethodDescriptor y.desc = some sig → argsL.length = sig.parameters.length)
    (hstack : g.stack = argsL.reverse ++ .ref b :: rest) (hW : 2 * g.monitorRoom + (rest.map fun v => v.category).sum ≤ W9) (hdg : decode c.code g.pc = .ok (.invokevirtual index, 3))
    (hpre : ∀ vm₁, s.WarmedH vm₁ → Pre ⟨T.setVm vm₁, locs, cells, slots⟩ (Value.ref b :: argsL).toArray) :
    (∃ (v : Option Value) (vm₁ : Vm) (B : Pt), s.WarmedH vm₁ ∧ Stand p l e R s m args below meth c B.U B.locs B.cells B.slots ∧ Post ⟨T.setVm vm₁, locs, cells, slots⟩ (Value.ref b :: argsL).toArray v B ∧
      ∀ target, Steps p.tables e below (B.U.setTop { g with pc := g.pc + 3, stack := v.toList ++ rest }) target → Steps p.tables e below (T.setTop g) target) ∨
    (∃ (q : Addr) (vm₁ : Vm) (B : Pt), s.WarmedH vm₁ ∧ Stand p l e R s m args below meth c B.U B.locs B.cells B.slots ∧ PostX ⟨T.setVm vm₁, locs, cells, slots⟩ (Value.ref b :: argsL).toArray q B ∧
      Steps p.tables e below (T.setTop g) ((B.U.setTop { g with stack := rest }).pushFrame (.throwing q))) := by
  obtain ⟨mk, methM, hnamed, hmethM, hstM, habM⟩ := Cond.instanceMethod_spec hinst
  obtain ⟨m8, methM', cM, hn8, hmethM', -, -, -, -, -, -, hsigM⟩ := Cond.codeWith_spec hcode
  cases Option.some.inj (hn8.symm.trans hnamed)
  cases hmethM.symm.trans hmethM'
  obtain ⟨c2, r2, m2, q1, q2, q3, q4, kP, hkP, hkPi⟩ := Cond.selects_spec hsel
  cases hcls.symm.trans q1
  cases (State.methodFound?_of_named hnamed hy).symm.trans q2
  cases hnamed.symm.trans q3
  have hselP : selectMethod e.platform s.vm cellB.cls mk = .method mk := by rw [Launch.admits_selectMethod X.admits]; exact q4
  obtain ⟨vm₁, X₁, hstep₁⟩ := X.invokevirtual hexec hown hlink hnamed hmethM hstM hkP hkPi hy (a := b) (cell := cellB) hcell
    (fun z h => by rw [h] at hobj; cases hobj) hselP hmethM habM hkP hkPi (g := g) hg (argsL := argsL) (rest := rest) (hlen _ hsigM) hstack hdg
  rcases hK m meth c ⟨T.setVm vm₁, locs, cells, slots⟩ { g with stack := rest } (.invokevirtual index) mk (Value.ref b :: argsL).toArray X₁ hg hsize hdg hW (X₁.named hnamed) (hpre vm₁ X₁.warmed) with ⟨v, B, X', hpost, hsteps⟩ | ⟨q, B, X', hpost, hsteps⟩
  · exact Or.inl ⟨v, vm₁, B, X₁.warmed, X', hpost, fun target h => hstep₁ _ fun acts => by rw [doInvoke_state]; exact hsteps.trans h⟩
  · exact Or.inr ⟨q, vm₁, B, X₁.warmed, X', hpost, hstep₁ _ fun acts => by rw [doInvoke_state]; exact hsteps⟩
theorem vx_callSX (X : Stand p l e R s m args below meth c T locs cells slots) (hexec : p.tables.exec = Jvm.exec) {own : String} {index : Nat} {y : MethodName} {bytes : ByteArray} {maxL : Nat} {ret : Option FieldType} {hh : List (Nat × Nat × Nat × Nat)}
    (hown : s.vm.findClass own = some m.cls) (hlink : (Cond.methodLink own index y).before args s = true) (hstat : (Cond.static y).before args s = true) (hinit : (Cond.initialized y.cls).before args s = true)
    (hcode : (Cond.codeWith y bytes maxL ret hh).before args s = true) (hy : y.cls ≠ "java/lang/invoke/MethodHandle" ∧ y.cls ≠ "java/lang/invoke/VarHandle")
    {W9 : Nat} {Pre : Pt → Array Value → Prop} {Post : Pt → Array Value → Option Value → Pt → Prop} {PostX : Pt → Array Value → Addr → Pt → Prop} (hK : vx_Back l R p e below s args y 3 W9 Pre Post PostX)
    {g : JFrame} (hg : g.method = m) (hsize : g.locals.size = c.maxLocals) {argsL rest : List Value} (hlen : ∀ sig, parseMethodDescriptor y.desc = some sig → argsL.length = sig.parameters.length)
    (hstack : g.stack = argsL.reverse ++ rest) (hW : 2 * g.monitorRoom + (rest.map fun v => v.category).sum ≤ W9) (hdg : decode c.code g.pc = .ok (.invokestatic index, 3))
    (hpre : ∀ vm₁, s.WarmedH vm₁ → Pre ⟨T.setVm vm₁, locs, cells, slots⟩ argsL.toArray) :
    (∃ (v : Option Value) (vm₁ : Vm) (B : Pt), s.WarmedH vm₁ ∧ Stand p l e R s m args below meth c B.U B.locs B.cells B.slots ∧ Post ⟨T.setVm vm₁, locs, cells, slots⟩ argsL.toArray v B ∧
      ∀ target, Steps p.tables e below (B.U.setTop { g with pc := g.pc + 3, stack := v.toList ++ rest }) target → Steps p.tables e below (T.setTop g) target) ∨
    (∃ (q : Addr) (vm₁ : Vm) (B : Pt), s.WarmedH vm₁ ∧ Stand p l e R s m args below meth c B.U B.locs B.cells B.slots ∧ PostX ⟨T.setVm vm₁, locs, cells, slots⟩ argsL.toArray q B ∧
      Steps p.tables e below (T.setTop g) ((B.U.setTop { g with stack := rest }).pushFrame (.throwing q))) := by
  obtain ⟨mk, methM, cM, hnamed, hmethM, -, -, -, -, -, -, hsigM⟩ := Cond.codeWith_spec hcode
  have hstatic : methM.isStatic = true := Cond.static_spec hnamed hmethM hstat
  obtain ⟨kP, hkP, -⟩ := className_of_methodNamed hnamed
  have hinitP : kP.init = .initialized := Cond.initialized_spec (findClass_of_methodNamed hnamed) hkP hinit
  obtain ⟨vm₁, X₁, hstep₁⟩ := X.invokestatic hexec hown hlink hnamed hmethM hstatic hkP hinitP hy (g := g) hg (argsL := argsL) (rest := rest) (hlen _ hsigM) hstack hdg
  rcases hK m meth c ⟨T.setVm vm₁, locs, cells, slots⟩ { g with stack := rest } (.invokestatic index) mk argsL.toArray X₁ hg hsize hdg hW (X₁.named hnamed) (hpre vm₁ X₁.warmed) with ⟨v, B, X', hpost, hsteps⟩ | ⟨q, B, X', hpost, hsteps⟩
  · exact Or.inl ⟨v, vm₁, B, X₁.warmed, X', hpost, fun target h => hstep₁ _ fun acts => by rw [doInvoke_state]; exact hsteps.trans h⟩
  · exact Or.inr ⟨q, vm₁, B, X₁.warmed, X', hpost, hstep₁ _ fun acts => by rw [doInvoke_state]; exact hsteps⟩
theorem vx_callVW (X : Stand p l e R s m args below meth c T locs cells slots) (hexec : p.tables.exec = Jvm.exec) {own C : String} {index : Nat} {y : MethodName} {bytes : ByteArray} {maxL : Nat} {ret : Option FieldType} {hh : List (Nat × Nat × Nat × Nat)}
    (hown : s.vm.findClass own = some m.cls) (hlink : (Cond.methodLink own index y).before args s = true) (hinst : (Cond.instanceMethod y).before args s = true) (hsel : (Cond.selects C y y).before args s = true)
    (hcode : (Cond.codeWith y bytes maxL ret hh).before args s = true) (hy : y.cls ≠ "java/lang/invoke/MethodHandle" ∧ y.cls ≠ "java/lang/invoke/VarHandle")
    {W9 : Nat} {Pre : Pt → Array Value → Prop} {Post : Pt → Array Value → Option Value → Pt → Prop} (hK : Back l R p e below s args y 3 W9 Pre Post)
    {b : Addr} {cellB : Cell} (hcell : T.heap[b]? = some cellB) (hobj : cellB.vm.isStatics = false) (hcls : s.vm.findClass C = some cellB.cls)
    {g : JFrame} (hg : g.method = m) (hsize : g.locals.size = c.maxLocals) {argsL rest : List Value} (hlen : ∀ sig, parseMethodDescriptor y.desc = some sig → argsL.length = sig.parameters.length)
    (hstack : g.stack = argsL.reverse ++ .ref b :: rest) (hW : 2 * g.monitorRoom + (rest.map fun v => v.category).sum ≤ W9) (hdg : decode c.code g.pc = .ok (.invokevirtual index, 3))
    (hpre : ∀ vm₁, s.WarmedH vm₁ → Pre ⟨T.setVm vm₁, locs, cells, slots⟩ (Value.ref b :: argsL).toArray) :
    ∃ (v : Option Value) (vm₁ : Vm) (B : Pt), s.WarmedH vm₁ ∧ Stand p l e R s m args below meth c B.U B.locs B.cells B.slots ∧ Post ⟨T.setVm vm₁, locs, cells, slots⟩ (Value.ref b :: argsL).toArray v B ∧
      ∀ target, Steps p.tables e below (B.U.setTop { g with pc := g.pc + 3, stack := v.toList ++ rest }) target → Steps p.tables e below (T.setTop g) target := by
  obtain ⟨mk, methM, hnamed, hmethM, hstM, habM⟩ := Cond.instanceMethod_spec hinst
  obtain ⟨m8, methM', cM, hn8, hmethM', -, -, -, -, -, -, hsigM⟩ := Cond.codeWith_spec hcode
  cases Option.some.inj (hn8.symm.trans hnamed)
  cases hmethM.symm.trans hmethM'
  obtain ⟨c2, r2, m2, q1, q2, q3, q4, kP, hkP, hkPi⟩ := Cond.selects_spec hsel
  cases hcls.symm.trans q1
  cases (State.methodFound?_of_named hnamed hy).symm.trans q2
  cases hnamed.symm.trans q3
  have hselP : selectMethod e.platform s.vm cellB.cls mk = .method mk := by rw [Launch.admits_selectMethod X.admits]; exact q4
  obtain ⟨vm₁, X₁, hstep₁⟩ := X.invokevirtual hexec hown hlink hnamed hmethM hstM hkP hkPi hy (a := b) (cell := cellB) hcell
    (fun z h => by rw [h] at hobj; cases hobj) hselP hmethM habM hkP hkPi (g := g) hg (argsL := argsL) (rest := rest) (hlen _ hsigM) hstack hdg
  obtain ⟨v, B, X', hpost, hsteps⟩ := hK m meth c ⟨T.setVm vm₁, locs, cells, slots⟩ { g with stack := rest } (.invokevirtual index) mk (Value.ref b :: argsL).toArray X₁ hg hsize hdg hW (X₁.named hnamed) (hpre vm₁ X₁.warmed)
  exact ⟨v, vm₁, B, X₁.warmed, X', hpost, fun target h => hstep₁ _ fun acts => by rw [doInvoke_state]; exact hsteps.trans h⟩
abbrev vx_CVW (R : Room) (s : State) (args : Array Value) (own C : String) (index : Nat) (y : MethodName) (bytes : ByteArray) (maxL : Nat) (ret : Option FieldType) (hh : List (Nat × Nat × Nat × Nat)) (ws : List Cond) (rm : Room) (mc ms n : Nat) : Prop :=
  (rm.cells = mc ∧ rm.slots = ms ∧ rm.frames + 1 ≤ R.frames ∧ 8 + (maxL + 11) + rm.locals ≤ R.locals ∧ (∀ w ∈ ws, ∀ (a' : Array Value) (U : State), s.WarmedH U.vm → w.before a' U = true) ∧ Cond.codeWith y bytes maxL ret hh ∈ ws) ∧
  (Cond.codeWith y bytes maxL ret hh).before args s = true ∧ (Cond.initialized y.cls).before args s = true ∧ (y.cls ≠ "java/lang/invoke/MethodHandle" ∧ y.cls ≠ "java/lang/invoke/VarHandle") ∧
  (∀ sig, parseMethodDescriptor y.desc = some sig → n = sig.parameters.length) ∧ (Cond.methodLink own index y).before args s = true ∧ (Cond.instanceMethod y).before args s = true ∧ (Cond.selects C y y).before args s = true
theorem vx_cwVW {own C : String} {index maxL mc ms : Nat} {y : MethodName} {bytes : ByteArray} {ret : Option FieldType} {hh : List (Nat × Nat × Nat × Nat)} {Ts ws ws' : List Cond} {rm : Room} (n : Nat) (ht : ∀ w ∈ Ts, w.before args s = true) (hT : GoodIn Ts (wsV own index C y ws)) (hw : ws = Cond.codeWith y bytes maxL ret hh :: ws') (hrc : rm.cells = mc) (hrs : rm.slots = ms)
    (hd : y.cls = C ∧ y.cls ≠ "java/lang/invoke/MethodHandle" ∧ y.cls ≠ "java/lang/invoke/VarHandle" ∧ (parseMethodDescriptor y.desc).map (fun d => d.parameters.length) = some n) (hR : rm.frames + 1 ≤ R.frames ∧ 8 + (maxL + 11) + rm.locals ≤ R.locals) :
    vx_CVW R s args own C index y bytes maxL ret hh ws rm mc ms n := by
  obtain ⟨hC, hd⟩ := hd
  subst hC
  have ok : ∀ w ∈ wsV own index y.cls y ws, w.before args s = true := fun w h => ht w (hT w h).1
  have hG : GoodIn Ts ws := fun w h => hT w (by unfold wsV; exact List.mem_append_right _ h)
  have hc : Cond.codeWith y bytes maxL ret hh ∈ ws := by rw [hw]; exact List.mem_cons_self
  refine ⟨⟨hrc, hrs, hR.1, hR.2, pay_in ht hG, hc⟩, ht _ (hG _ hc).1, ok _ (by simp [wsV]), ⟨hd.1, hd.2.1⟩, fun sig h => ?_, ok _ (by simp [wsV]), ok _ (by simp [wsV]), ok _ (by simp [wsV])⟩
  have h2 := hd.2.2
  rw [h] at h2
  exact (Option.some.inj h2).symm
theorem vx_runVW {y : MethodName} {bytes cc : ByteArray} {maxL nL mc ms n index : Nat} {ret : Option FieldType} {hh : List (Nat × Nat × Nat × Nat)} {ws : List Cond} {rm : Room} {Pc : Array Value → State → Prop} {Qc : Array Value → State → Outcome → State → Prop} {free : Addr → Prop} {Ts : List Cond} {own C : String} {b : Addr} {As rest : List Value} {g : JFrame}
    (S : CallFix p m c cc nL s args Ts own) (hM : Met l y ws rm Pc Qc mc ms free) (cw : vx_CVW R s args own C index y bytes maxL ret hh ws rm mc ms n) (hp : PreV s H C b Pc As)
    (hg : g.method = m) (hn : As.length = n) (hsize : g.locals.size = nL) (hstack : g.stack = As.reverse ++ .ref b :: rest) (hW : 2 * g.monitorRoom + (rest.map fun v => v.category).sum ≤ 8) (hdg : decode cc g.pc = .ok (.invokevirtual index, 3)) (hf : cells + mc ≤ R.cells ∧ slots + ms ≤ R.slots) :
    va_Run p l e R s m args below meth c H locs cells slots mc ms g rest (Qc (Value.ref b :: As).toArray) free := by
  obtain ⟨⟨hrc, hrs, hfr, hlo, hws, hcw⟩, hcode, hini, hy, hlen, hl, hin, hse⟩ := cw
  have hK : Back l R p e below s args y 3 8 (PreOf R mc ms Pc) (PostOf Qc mc ms free) := va_backW (hh := hh) (bytes := bytes) (maxL := maxL) (ret := ret) hM hp.1 hrc hrs hfr hlo hws hcw (fun a' U hW => word_at hW (Or.inl (by first | rfl | simp [Cond.onTables, Cond.keeps, Cond.steady])) hini)
  obtain ⟨hx, hb, hml, ho, -⟩ := S
  obtain ⟨-, ⟨cellB, hcB, hoB, hclB⟩, hPc⟩ := hp
  intro T hT X
  obtain ⟨v, vm₁, ⟨U', l2, c2, s2⟩, hW₁, X', ⟨g', mk, t, L, e1, e2, hq, h1, hL, h2, h3⟩, st⟩ := vx_callVW X hx (C := C) (hh := hh) (bytes := bytes) (maxL := maxL) (ret := ret) ho hl hin hse hcode hy hK (by rw [hT]; exact hcB) hoB hclB hg (hsize.trans hml.symm) (argsL := As) (rest := rest) (fun sig h => hn.trans (hlen sig h)) hstack hW (by rw [hb]; exact hdg)
    (fun vm₁ hW₁ => ⟨hf.1, hf.2, hPc (T.setVm vm₁) hT hW₁⟩)
  dsimp only [Pt.U, Pt.locs, Pt.cells, Pt.slots] at X' e1 e2 h1 h2 h3 st
  subst h1; subst h2; subst h3
  exact ⟨v, (T.setVm vm₁).calling g' mk (Value.ref b :: As).toArray, t, U', L, hT, X', hL, e1, e2, hq, st⟩
section
variable {y : MethodName} {bytes cc : ByteArray} {maxL nL mc ms n index : Nat} {ret : Option FieldType} {ws : List Cond} {rm : Room} {Pc : Array Value → State → Prop} {Qc : Array Value → State → Outcome → State → Prop} {XC : String → State → State → Prop} {free : Addr → Prop} {Ts : List Cond} {own C : String} {b : Addr} {As rest : List Value} {g : JFrame}
theorem vx_runVX {hh : List (Nat × Nat × Nat × Nat)} (S : CallFix p m c cc nL s args Ts own) (hM : vx_Met l y ws rm Pc Qc XC mc ms free) (cw : vx_CVW R s args own C index y bytes maxL ret hh ws rm mc ms n) (hp : PreV s H C b Pc As)
    (hg : g.method = m) (hn : As.length = n) (hsize : g.locals.size = nL) (hstack : g.stack = As.reverse ++ .ref b :: rest) (hW : 2 * g.monitorRoom + (rest.map fun v => v.category).sum ≤ 8) (hdg : decode cc g.pc = .ok (.invokevirtual index, 3)) (hf : cells + mc ≤ R.cells ∧ slots + ms ≤ R.slots) :
    vx_Run p l e R s m args below meth c H locs cells slots mc ms g rest (Qc (Value.ref b :: As).toArray) XC free := by
  obtain ⟨⟨hrc, hrs, hfr, hlo, hws, hcw⟩, hcode, hini, hy, hlen, hl, hin, hse⟩ := cw
  have hK : vx_Back l R p e below s args y 3 8 (PreOf R mc ms Pc) (PostOf Qc mc ms free) (vx_Post XC mc ms free) := vx_backW (hh := hh) (bytes := bytes) (maxL := maxL) (ret := ret) hM hp.1 hrc hrs hfr hlo hws hcw (fun a' U hW => word_at hW (Or.inl (by first | rfl | simp [Cond.onTables, Cond.keeps, Cond.steady])) hini)
  obtain ⟨hx, hb, hml, ho, -⟩ := S
  obtain ⟨-, ⟨cellB, hcB, hoB, hclB⟩, hPc⟩ := hp
  intro T hT X
  rcases vx_callVX X hx (C := C) (hh := hh) (bytes := bytes) (maxL := maxL) (ret := ret) ho hl hin hse hcode hy hK (by rw [hT]; exact hcB) hoB hclB hg (hsize.trans hml.symm) (argsL := As) (rest := rest) (fun sig h => hn.trans (hlen sig h)) hstack hW (by rw [hb]; exact hdg)
    (fun vm₁ hW₁ => ⟨hf.1, hf.2, hPc (T.setVm vm₁) hT hW₁⟩) with ⟨v, vm₁, ⟨U', l2, c2, s2⟩, hW₁, X', ⟨g', mk, t, L, e1, e2, hq, h1, hL, h2, h3⟩, st⟩ | ⟨q, vm₁, ⟨U', l2, c2, s2⟩, hW₁, X', ⟨g', mk, t, L, E, ce, e1, e2, hq, hce, hcv, hcl, h1, hL, h2, h3⟩, st⟩
  · dsimp only [Pt.U, Pt.locs, Pt.cells, Pt.slots] at X' e1 e2 h1 h2 h3 st
    subst h1; subst h2; subst h3
    exact Or.inl ⟨v, (T.setVm vm₁).calling g' mk (Value.ref b :: As).toArray, t, U', L, hT, X', hL, e1, e2, hq, st⟩
  · dsimp only [Pt.U, Pt.locs, Pt.cells, Pt.slots] at X' e1 e2 h1 h2 h3 st hcl
    subst h1; subst h2; subst h3
    exact Or.inr ⟨q, (T.setVm vm₁).calling g' mk (Value.ref b :: As).toArray, t, U', L, E, ce, hT, X', hL, e1, e2, hq, hce, hcv, vx_cls hW₁ hcl, st⟩
theorem vx_runSX {hh : List (Nat × Nat × Nat × Nat)} (S : CallFix p m c cc nL s args Ts own) (hM : vx_Met l y ws rm Pc Qc XC mc ms free) (cw : vx_CSW R s args own index y bytes maxL ret hh ws rm mc ms n) (hp : PreS s H Pc As)
    (hg : g.method = m) (hn : As.length = n) (hsize : g.locals.size = nL) (hstack : g.stack = As.reverse ++ rest) (hW : 2 * g.monitorRoom + (rest.map fun v => v.category).sum ≤ 8) (hdg : decode cc g.pc = .ok (.invokestatic index, 3)) (hf : cells + mc ≤ R.cells ∧ slots + ms ≤ R.slots) :
    vx_Run p l e R s m args below meth c H locs cells slots mc ms g rest (Qc As.toArray) XC free := by
  obtain ⟨⟨hrc, hrs, hfr, hlo, hws, hcw⟩, hcode, hini, hy, hlen, hl, hstt⟩ := cw
  have hK : vx_Back l R p e below s args y 3 8 (PreOf R mc ms Pc) (PostOf Qc mc ms free) (vx_Post XC mc ms free) := vx_backW (hh := hh) (bytes := bytes) (maxL := maxL) (ret := ret) hM hp.1 hrc hrs hfr hlo hws hcw (fun a' U hW => word_at hW (Or.inl (by first | rfl | simp [Cond.onTables, Cond.keeps, Cond.steady])) hini)
  obtain ⟨hx, hb, hml, ho, -⟩ := S
  intro T hT X
  rcases vx_callSX X hx (hh := hh) (bytes := bytes) (maxL := maxL) (ret := ret) ho hl hstt hini hcode hy hK hg (hsize.trans hml.symm) (argsL := As) (rest := rest) (fun sig h => hn.trans (hlen sig h)) hstack hW (by rw [hb]; exact hdg)
    (fun vm₁ hW₁ => ⟨hf.1, hf.2, hp.2 (T.setVm vm₁) hT hW₁⟩) with ⟨v, vm₁, ⟨U', l2, c2, s2⟩, hW₁, X', ⟨g', mk, t, L, e1, e2, hq, h1, hL, h2, h3⟩, st⟩ | ⟨q, vm₁, ⟨U', l2, c2, s2⟩, hW₁, X', ⟨g', mk, t, L, E, ce, e1, e2, hq, hce, hcv, hcl, h1, hL, h2, h3⟩, st⟩
  · dsimp only [Pt.U, Pt.locs, Pt.cells, Pt.slots] at X' e1 e2 h1 h2 h3 st
    subst h1; subst h2; subst h3
    exact Or.inl ⟨v, (T.setVm vm₁).calling g' mk As.toArray, t, U', L, hT, X', hL, e1, e2, hq, st⟩
  · dsimp only [Pt.U, Pt.locs, Pt.cells, Pt.slots] at X' e1 e2 h1 h2 h3 st hcl
    subst h1; subst h2; subst h3
    exact Or.inr ⟨q, (T.setVm vm₁).calling g' mk As.toArray, t, U', L, E, ce, hT, X', hL, e1, e2, hq, hce, hcv, vx_cls hW₁ hcl, st⟩
end
end VXH
theorem vx_ofWH {l : Launch} {y : MethodName} {ws ws' : List Cond} {rm : Room} {Pc : Array Value → State → Prop} {Qc : Array Value → State → Outcome → State → Prop} {XC : String → State → State → Prop} {mc ms : Nat} {free : Addr → Prop} {cc : ByteArray} {maxL : Nat} {ret : Option FieldType} {hh : List (Nat × Nat × Nat × Nat)}
    (hy : plainName y.cls = true) (hw : ws = Cond.codeWith y cc maxL ret hh :: ws')
    (body : ∀ p e s m args below meth c s₁, BodyLoose p l y (headSpec ws rm) cc maxL ret e s m args below meth c s₁ → c.maxLocals = maxL → Pc args s →
      W p l e (headSpec ws rm).room s m args below meth c s.heap [] 0 0 (vx_MQ below Qc XC args s mc ms free) (entryFrame m args maxL)) : vx_Met l y ws rm Pc Qc XC mc ms free := by
  refine MetFree.of_bodyS (code := cc) (maxLocals := maxL) (ret := ret) hy ?_ ?_
  · intro args s m h hn
    obtain ⟨m9, meth, c, hn9, h1, h2, h3, h4, -, h5, h6, -⟩ := Cond.codeWith_spec (atoms_spec (ws := ws) h _ (by rw [hw]; exact List.mem_cons_self))
    cases hn.symm.trans hn9
    exact ⟨meth, c, h1, h2, h3, h4, h5, h6⟩
  · intro p e s m args below meth c s₁ B hml hP _
    have hh0 : s₁.heap = s.heap := by rw [B.state]; rfl
    obtain ⟨t, a1, o, b1, b2, b3⟩ := body p e s m args below meth c s₁ B hml hP s₁ hh0 (Stand.of_body B)
    exact ⟨t, o, a1, b1, b2, b3⟩
/-! ===== END ===== -/

/-! ===== BEGIN printed: names, fields, word lists, decode rows ===== -/
def RX0 : String := "GainTrees$Bytes"
def TX0 : u_T := fun k => match k with
  | 0 => ("GainTrees$Bytes", "data", "[B", true)
  | 1 => ("GainTrees$Bytes", "kept", "I", false)
  | _ => ("GainTrees$Bytes", "told", "I", false)
def tyX0 : Nat → FieldType := fun k => match k with
  | 0 => .array .byte
  | 1 => .int
  | _ => .int
abbrev wsX00 : List Cond := u_ws RX0 TX0 3
theorem nmX0 : ∀ a, a < 3 → ∀ b, b < 3 → a ≠ b → (TX0 a).2.1 ≠ (TX0 b).2.1 := by decide +kernel
theorem tyX0_ok : ∀ k, k < 3 → parseFieldDescriptor (TX0 k).2.2.1 = some (tyX0 k) := by decide +kernel
abbrev cX0_init : ByteArray := prog_2_method_1_code
def yX0_init : MethodName := ⟨RX0, "<init>", "(I)V"⟩
abbrev cX0_shorten : ByteArray := prog_2_method_2_code
def yX0_shorten : MethodName := ⟨RX0, "shorten", "(I)V"⟩
abbrev cX0_add : ByteArray := prog_2_method_3_code
def yX0_add : MethodName := ⟨RX0, "add", "(I)V"⟩
abbrev cX0_at : ByteArray := prog_2_method_4_code
def yX0_at : MethodName := ⟨RX0, "at", "(I)I"⟩
def RX1 : String := "GainTrees$Grower"
def TX1 : u_T := fun k => match k with
  | 0 => ("GainTrees$Grower", "scale", "LGainTrees$Scale;", true)
  | 1 => ("GainTrees$Grower", "rows", "[I", true)
  | 2 => ("GainTrees$Grower", "parted", "[I", true)
  | 3 => ("GainTrees$Grower", "sorted", "[I", true)
  | 4 => ("GainTrees$Grower", "mark", "[I", true)
  | 5 => ("GainTrees$Grower", "parents", "[I", true)
  | 6 => ("GainTrees$Grower", "places", "[I", true)
  | 7 => ("GainTrees$Grower", "starts", "[I", true)
  | 8 => ("GainTrees$Grower", "stops", "[I", true)
  | 9 => ("GainTrees$Grower", "trial", "LGainTrees$Split;", true)
  | 10 => ("GainTrees$Grower", "best", "[LGainTrees$Split;", true)
  | 11 => ("GainTrees$Grower", "waiting", "I", false)
  | 12 => ("GainTrees$Grower", "used", "I", false)
  | 13 => ("GainTrees$Grower", "mode", "I", false)
  | 14 => ("GainTrees$Grower", "least", "I", false)
  | 15 => ("GainTrees$Grower", "depth", "I", false)
  | 16 => ("GainTrees$Grower", "table", "LGainTrees$Table;", true)
  | 17 => ("GainTrees$Grower", "names", "LGainTrees$Names;", false)
  | _ => ("GainTrees$Grower", "tree", "LGainTrees$Tree;", false)
def tyX1 : Nat → FieldType := fun k => match k with
  | 0 => .object "GainTrees$Scale"
  | 1 => .array .int
  | 2 => .array .int
  | 3 => .array .int
  | 4 => .array .int
  | 5 => .array .int
  | 6 => .array .int
  | 7 => .array .int
  | 8 => .array .int
  | 9 => .object "GainTrees$Split"
  | 10 => .array (.object "GainTrees$Split")
  | 11 => .int
  | 12 => .int
  | 13 => .int
  | 14 => .int
  | 15 => .int
  | 16 => .object "GainTrees$Table"
  | 17 => .object "GainTrees$Names"
  | _ => .object "GainTrees$Tree"
abbrev wsX10 : List Cond := u_ws RX1 TX1 19
theorem nmX1 : ∀ a, a < 19 → ∀ b, b < 19 → a ≠ b → (TX1 a).2.1 ≠ (TX1 b).2.1 := by decide +kernel
theorem tyX1_ok : ∀ k, k < 19 → parseFieldDescriptor (TX1 k).2.2.1 = some (tyX1 k) := by decide +kernel
abbrev cX1_init : ByteArray := prog_3_method_1_code
def yX1_init : MethodName := ⟨RX1, "<init>", "(LGainTrees$Scale;LGainTrees$Table;LGainTrees$Names;LGainTrees$Tree;)V"⟩
abbrev cX1_aim : ByteArray := prog_3_method_2_code
def yX1_aim : MethodName := ⟨RX1, "aim", "(III)V"⟩
abbrev cX1_gather : ByteArray := prog_3_method_3_code
def yX1_gather : MethodName := ⟨RX1, "gather", "(II)V"⟩
abbrev cX1_build : ByteArray := prog_3_method_4_code
def yX1_build : MethodName := ⟨RX1, "build", "(LGainTrees$Names;LGainTrees$Tree;)V"⟩
abbrev cX1_push : ByteArray := prog_3_method_5_code
def yX1_push : MethodName := ⟨RX1, "push", "(IIII)V"⟩
abbrev cX1_sortRows : ByteArray := prog_3_method_6_code
def yX1_sortRows : MethodName := ⟨RX1, "sortRows", "()V"⟩
abbrev cX1_sortBy : ByteArray := prog_3_method_7_code
def yX1_sortBy : MethodName := ⟨RX1, "sortBy", "(I)V"⟩
abbrev cX1_isLeaf : ByteArray := prog_3_method_8_code
def yX1_isLeaf : MethodName := ⟨RX1, "isLeaf", "(III)Z"⟩
abbrev cX1_findSplits : ByteArray := prog_3_method_9_code
def yX1_findSplits : MethodName := ⟨RX1, "findSplits", "(III)V"⟩
abbrev cX1_tryValues : ByteArray := prog_3_method_10_code
def yX1_tryValues : MethodName := ⟨RX1, "tryValues", "(LGainTrees$Split;III)V"⟩
abbrev cX1_tryCuts : ByteArray := prog_3_method_11_code
def yX1_tryCuts : MethodName := ⟨RX1, "tryCuts", "(LGainTrees$Split;IIII)V"⟩
abbrev cX1_offer : ByteArray := prog_3_method_12_code
def yX1_offer : MethodName := ⟨RX1, "offer", "(LGainTrees$Split;)V"⟩
abbrev cX1_chooseBest : ByteArray := prog_3_method_13_code
def yX1_chooseBest : MethodName := ⟨RX1, "chooseBest", "()LGainTrees$Split;"⟩
abbrev cX1_chooseByRatio : ByteArray := prog_3_method_14_code
def yX1_chooseByRatio : MethodName := ⟨RX1, "chooseByRatio", "()LGainTrees$Split;"⟩
abbrev cX1_part : ByteArray := prog_3_method_15_code
def yX1_part : MethodName := ⟨RX1, "part", "(ILGainTrees$Split;II)V"⟩
def RX2 : String := "GainTrees$Names"
def TX2 : u_T := fun k => match k with
  | 0 => ("GainTrees$Names", "letters", "[B", true)
  | 1 => ("GainTrees$Names", "lengths", "[I", true)
  | 2 => ("GainTrees$Names", "values", "[I", true)
  | 3 => ("GainTrees$Names", "classes", "I", false)
  | _ => ("GainTrees$Names", "attributes", "I", false)
def tyX2 : Nat → FieldType := fun k => match k with
  | 0 => .array .byte
  | 1 => .array .int
  | 2 => .array .int
  | 3 => .int
  | _ => .int
abbrev wsX20 : List Cond := u_ws RX2 TX2 5
theorem nmX2 : ∀ a, a < 5 → ∀ b, b < 5 → a ≠ b → (TX2 a).2.1 ≠ (TX2 b).2.1 := by decide +kernel
theorem tyX2_ok : ∀ k, k < 5 → parseFieldDescriptor (TX2 k).2.2.1 = some (tyX2 k) := by decide +kernel
abbrev cX2_init : ByteArray := prog_4_method_1_code
def yX2_init : MethodName := ⟨RX2, "<init>", "()V"⟩
abbrev cX2_wipe : ByteArray := prog_4_method_2_code
def yX2_wipe : MethodName := ⟨RX2, "wipe", "()V"⟩
abbrev cX2_attributeSlot : ByteArray := prog_4_method_3_code
def yX2_attributeSlot : MethodName := ⟨RX2, "attributeSlot", "(I)I"⟩
abbrev cX2_valueSlot : ByteArray := prog_4_method_4_code
def yX2_valueSlot : MethodName := ⟨RX2, "valueSlot", "(II)I"⟩
abbrev cX2_valuesOf : ByteArray := prog_4_method_5_code
def yX2_valuesOf : MethodName := ⟨RX2, "valuesOf", "(I)I"⟩
abbrev cX2_addAttribute : ByteArray := prog_4_method_6_code
def yX2_addAttribute : MethodName := ⟨RX2, "addAttribute", "()V"⟩
abbrev cX2_setValues : ByteArray := prog_4_method_7_code
def yX2_setValues : MethodName := ⟨RX2, "setValues", "(II)V"⟩
abbrev cX2_put : ByteArray := prog_4_method_8_code
def yX2_put : MethodName := ⟨RX2, "put", "(ILGainTrees$Bytes;II)V"⟩
abbrev cX2_seek : ByteArray := prog_4_method_9_code
def yX2_seek : MethodName := ⟨RX2, "seek", "(IILGainTrees$Bytes;II)I"⟩
abbrev cX2_holds : ByteArray := prog_4_method_10_code
def yX2_holds : MethodName := ⟨RX2, "holds", "(ILGainTrees$Bytes;II)Z"⟩
abbrev cX2_lengthOf : ByteArray := prog_4_method_11_code
def yX2_lengthOf : MethodName := ⟨RX2, "lengthOf", "(I)I"⟩
abbrev cX2_letterOf : ByteArray := prog_4_method_12_code
def yX2_letterOf : MethodName := ⟨RX2, "letterOf", "(II)I"⟩
def RX3 : String := "GainTrees$Product"
def TX3 : u_T := fun k => match k with
  | 0 => ("GainTrees$Product", "limbs", "[I", true)
  | _ => ("GainTrees$Product", "used", "I", false)
def tyX3 : Nat → FieldType := fun k => match k with
  | 0 => .array .int
  | _ => .int
abbrev wsX30 : List Cond := u_ws RX3 TX3 2
theorem nmX3 : ∀ a, a < 2 → ∀ b, b < 2 → a ≠ b → (TX3 a).2.1 ≠ (TX3 b).2.1 := by decide +kernel
theorem tyX3_ok : ∀ k, k < 2 → parseFieldDescriptor (TX3 k).2.2.1 = some (tyX3 k) := by decide +kernel
abbrev cX3_init : ByteArray := prog_5_method_1_code
def yX3_init : MethodName := ⟨RX3, "<init>", "()V"⟩
abbrev cX3_begin : ByteArray := prog_5_method_2_code
def yX3_begin : MethodName := ⟨RX3, "begin", "()V"⟩
abbrev cX3_raise : ByteArray := prog_5_method_3_code
def yX3_raise : MethodName := ⟨RX3, "raise", "(II)V"⟩
abbrev cX3_order : ByteArray := prog_5_method_4_code
def yX3_order : MethodName := ⟨RX3, "order", "(LGainTrees$Product;)I"⟩
def RX4 : String := "GainTrees$Reader"
def TX4 : u_T := fun k => match k with
  | 0 => ("GainTrees$Reader", "tape", "LGainTrees$Bytes;", true)
  | 1 => ("GainTrees$Reader", "fault", "I", false)
  | 2 => ("GainTrees$Reader", "faultAt", "I", false)
  | 3 => ("GainTrees$Reader", "kind", "I", false)
  | 4 => ("GainTrees$Reader", "from", "I", false)
  | 5 => ("GainTrees$Reader", "to", "I", false)
  | 6 => ("GainTrees$Reader", "number", "J", false)
  | 7 => ("GainTrees$Reader", "value", "I", false)
  | 8 => ("GainTrees$Reader", "under", "I", false)
  | _ => ("GainTrees$Reader", "child", "I", false)
def tyX4 : Nat → FieldType := fun k => match k with
  | 0 => .object "GainTrees$Bytes"
  | 1 => .int
  | 2 => .int
  | 3 => .int
  | 4 => .int
  | 5 => .int
  | 6 => .long
  | 7 => .int
  | 8 => .int
  | _ => .int
abbrev wsX40 : List Cond := u_ws RX4 TX4 10
theorem nmX4 : ∀ a, a < 10 → ∀ b, b < 10 → a ≠ b → (TX4 a).2.1 ≠ (TX4 b).2.1 := by decide +kernel
theorem tyX4_ok : ∀ k, k < 10 → parseFieldDescriptor (TX4 k).2.2.1 = some (tyX4 k) := by decide +kernel
abbrev cX4_init : ByteArray := prog_6_method_1_code
def yX4_init : MethodName := ⟨RX4, "<init>", "(LGainTrees$Bytes;)V"⟩
abbrev cX4_begin : ByteArray := prog_6_method_2_code
def yX4_begin : MethodName := ⟨RX4, "begin", "()V"⟩
abbrev cX4_fail : ByteArray := prog_6_method_3_code
def yX4_fail : MethodName := ⟨RX4, "fail", "(I)Z"⟩
abbrev cX4_isBlank : ByteArray := prog_6_method_4_code
def yX4_isBlank : MethodName := ⟨RX4, "isBlank", "(I)Z"⟩
abbrev cX4_isDigit : ByteArray := prog_6_method_5_code
def yX4_isDigit : MethodName := ⟨RX4, "isDigit", "(I)Z"⟩
abbrev cX4_isLetter : ByteArray := prog_6_method_6_code
def yX4_isLetter : MethodName := ⟨RX4, "isLetter", "(I)Z"⟩
abbrev cX4_step : ByteArray := prog_6_method_7_code
def yX4_step : MethodName := ⟨RX4, "step", "()V"⟩
abbrev cX4_stepWord : ByteArray := prog_6_method_8_code
def yX4_stepWord : MethodName := ⟨RX4, "stepWord", "()V"⟩
abbrev cX4_stepNumber : ByteArray := prog_6_method_9_code
def yX4_stepNumber : MethodName := ⟨RX4, "stepNumber", "()V"⟩
abbrev cX4_stepSign : ByteArray := prog_6_method_10_code
def yX4_stepSign : MethodName := ⟨RX4, "stepSign", "(I)V"⟩
abbrev cX4_isWord : ByteArray := prog_6_method_11_code
def yX4_isWord : MethodName := ⟨RX4, "isWord", "(Ljava/lang/String;)Z"⟩
abbrev cX4_isReserved : ByteArray := prog_6_method_12_code
def yX4_isReserved : MethodName := ⟨RX4, "isReserved", "()Z"⟩
abbrev cX4_takeSign : ByteArray := prog_6_method_13_code
def yX4_takeSign : MethodName := ⟨RX4, "takeSign", "(I)Z"⟩
abbrev cX4_takeWord : ByteArray := prog_6_method_14_code
def yX4_takeWord : MethodName := ⟨RX4, "takeWord", "(Ljava/lang/String;)Z"⟩
abbrev cX4_readNames : ByteArray := prog_6_method_15_code
def yX4_readNames : MethodName := ⟨RX4, "readNames", "(LGainTrees$Names;)Z"⟩
abbrev cX4_readAttribute : ByteArray := prog_6_method_16_code
def yX4_readAttribute : MethodName := ⟨RX4, "readAttribute", "(LGainTrees$Names;I)Z"⟩
abbrev cX4_readList : ByteArray := prog_6_method_17_code
def yX4_readList : MethodName := ⟨RX4, "readList", "(LGainTrees$Names;II)I"⟩
abbrev cX4_readName : ByteArray := prog_6_method_18_code
def yX4_readName : MethodName := ⟨RX4, "readName", "(LGainTrees$Names;III)Z"⟩
abbrev cX4_readRows : ByteArray := prog_6_method_19_code
def yX4_readRows : MethodName := ⟨RX4, "readRows", "(LGainTrees$Names;LGainTrees$Table;)Z"⟩
abbrev cX4_readCells : ByteArray := prog_6_method_20_code
def yX4_readCells : MethodName := ⟨RX4, "readCells", "(LGainTrees$Names;LGainTrees$Table;I)Z"⟩
abbrev cX4_readRow : ByteArray := prog_6_method_21_code
def yX4_readRow : MethodName := ⟨RX4, "readRow", "(LGainTrees$Names;LGainTrees$Table;)Z"⟩
abbrev cX4_readCell : ByteArray := prog_6_method_22_code
def yX4_readCell : MethodName := ⟨RX4, "readCell", "(LGainTrees$Names;LGainTrees$Table;II)Z"⟩
abbrev cX4_checkNumber : ByteArray := prog_6_method_23_code
def yX4_checkNumber : MethodName := ⟨RX4, "checkNumber", "()Z"⟩
abbrev cX4_seekWord : ByteArray := prog_6_method_24_code
def yX4_seekWord : MethodName := ⟨RX4, "seekWord", "(LGainTrees$Names;II)Z"⟩
abbrev cX4_readClass : ByteArray := prog_6_method_25_code
def yX4_readClass : MethodName := ⟨RX4, "readClass", "(LGainTrees$Names;)Z"⟩
abbrev cX4_readTree : ByteArray := prog_6_method_26_code
def yX4_readTree : MethodName := ⟨RX4, "readTree", "(LGainTrees$Names;LGainTrees$Tree;)Z"⟩
abbrev cX4_readLeaf : ByteArray := prog_6_method_27_code
def yX4_readLeaf : MethodName := ⟨RX4, "readLeaf", "(LGainTrees$Names;LGainTrees$Tree;)Z"⟩
abbrev cX4_readFork : ByteArray := prog_6_method_28_code
def yX4_readFork : MethodName := ⟨RX4, "readFork", "(LGainTrees$Names;LGainTrees$Tree;)Z"⟩
abbrev cX4_readLabel : ByteArray := prog_6_method_29_code
def yX4_readLabel : MethodName := ⟨RX4, "readLabel", "(LGainTrees$Names;II)Z"⟩
abbrev cX4_closeForks : ByteArray := prog_6_method_30_code
def yX4_closeForks : MethodName := ⟨RX4, "closeForks", "(LGainTrees$Names;LGainTrees$Tree;)Z"⟩
def RX5 : String := "GainTrees$Rules"
def TX5 : u_T := fun k => match k with
  | 0 => ("GainTrees$Rules", "attribute", "[I", true)
  | 1 => ("GainTrees$Rules", "sort", "[I", true)
  | 2 => ("GainTrees$Rules", "bound", "[I", true)
  | 3 => ("GainTrees$Rules", "start", "[I", true)
  | 4 => ("GainTrees$Rules", "size", "[I", true)
  | 5 => ("GainTrees$Rules", "ranked", "[I", true)
  | 6 => ("GainTrees$Rules", "result", "[I", true)
  | 7 => ("GainTrees$Rules", "covered", "[I", true)
  | 8 => ("GainTrees$Rules", "right", "[I", true)
  | 9 => ("GainTrees$Rules", "misses", "[I", true)
  | 10 => ("GainTrees$Rules", "missed", "[I", true)
  | 11 => ("GainTrees$Rules", "coveredWithout", "[I", true)
  | 12 => ("GainTrees$Rules", "rightWithout", "[I", true)
  | 13 => ("GainTrees$Rules", "gone", "[Z", true)
  | 14 => ("GainTrees$Rules", "arrived", "[I", true)
  | 15 => ("GainTrees$Rules", "many", "I", false)
  | 16 => ("GainTrees$Rules", "stand", "Z", false)
  | _ => ("GainTrees$Rules", "otherwise", "I", false)
def tyX5 : Nat → FieldType := fun k => match k with
  | 0 => .array .int
  | 1 => .array .int
  | 2 => .array .int
  | 3 => .array .int
  | 4 => .array .int
  | 5 => .array .int
  | 6 => .array .int
  | 7 => .array .int
  | 8 => .array .int
  | 9 => .array .int
  | 10 => .array .int
  | 11 => .array .int
  | 12 => .array .int
  | 13 => .array .boolean
  | 14 => .array .int
  | 15 => .int
  | 16 => .boolean
  | _ => .int
abbrev wsX50 : List Cond := u_ws RX5 TX5 18
theorem nmX5 : ∀ a, a < 18 → ∀ b, b < 18 → a ≠ b → (TX5 a).2.1 ≠ (TX5 b).2.1 := by decide +kernel
theorem tyX5_ok : ∀ k, k < 18 → parseFieldDescriptor (TX5 k).2.2.1 = some (tyX5 k) := by decide +kernel
abbrev cX5_init : ByteArray := prog_7_method_1_code
def yX5_init : MethodName := ⟨RX5, "<init>", "()V"⟩
abbrev cX5_drop : ByteArray := prog_7_method_2_code
def yX5_drop : MethodName := ⟨RX5, "drop", "()V"⟩
abbrev cX5_make : ByteArray := prog_7_method_3_code
def yX5_make : MethodName := ⟨RX5, "make", "(LGainTrees$Tree;LGainTrees$Table;)V"⟩
abbrev cX5_addRule : ByteArray := prog_7_method_4_code
def yX5_addRule : MethodName := ⟨RX5, "addRule", "(LGainTrees$Tree;ILGainTrees$Table;)V"⟩
abbrev cX5_setCondition : ByteArray := prog_7_method_5_code
def yX5_setCondition : MethodName := ⟨RX5, "setCondition", "(ILGainTrees$Tree;II)V"⟩
abbrev cX5_holds : ByteArray := prog_7_method_6_code
def yX5_holds : MethodName := ⟨RX5, "holds", "(ILGainTrees$Table;I)Z"⟩
abbrev cX5_covers : ByteArray := prog_7_method_7_code
def yX5_covers : MethodName := ⟨RX5, "covers", "(ILGainTrees$Table;I)Z"⟩
abbrev cX5_simplify : ByteArray := prog_7_method_8_code
def yX5_simplify : MethodName := ⟨RX5, "simplify", "(ILGainTrees$Table;)V"⟩
abbrev cX5_countMisses : ByteArray := prog_7_method_9_code
def yX5_countMisses : MethodName := ⟨RX5, "countMisses", "(ILGainTrees$Table;)V"⟩
abbrev cX5_countWithout : ByteArray := prog_7_method_10_code
def yX5_countWithout : MethodName := ⟨RX5, "countWithout", "(ILGainTrees$Table;)V"⟩
abbrev cX5_needless : ByteArray := prog_7_method_11_code
def yX5_needless : MethodName := ⟨RX5, "needless", "(I)I"⟩
abbrev cX5_orderOfWorths : ByteArray := prog_7_method_12_code
def yX5_orderOfWorths : MethodName := ⟨RX5, "orderOfWorths", "(IIII)I"⟩
abbrev cX5_release : ByteArray := prog_7_method_13_code
def yX5_release : MethodName := ⟨RX5, "release", "(IILGainTrees$Table;)V"⟩
abbrev cX5_closeUp : ByteArray := prog_7_method_14_code
def yX5_closeUp : MethodName := ⟨RX5, "closeUp", "(I)V"⟩
abbrev cX5_isTold : ByteArray := prog_7_method_15_code
def yX5_isTold : MethodName := ⟨RX5, "isTold", "(I)Z"⟩
abbrev cX5_hasSame : ByteArray := prog_7_method_16_code
def yX5_hasSame : MethodName := ⟨RX5, "hasSame", "(II)Z"⟩
abbrev cX5_rank : ByteArray := prog_7_method_17_code
def yX5_rank : MethodName := ⟨RX5, "rank", "()V"⟩
abbrev cX5_isAhead : ByteArray := prog_7_method_18_code
def yX5_isAhead : MethodName := ⟨RX5, "isAhead", "(II)Z"⟩
abbrev cX5_firstFor : ByteArray := prog_7_method_19_code
def yX5_firstFor : MethodName := ⟨RX5, "firstFor", "(LGainTrees$Table;I)I"⟩
abbrev cX5_decisionOn : ByteArray := prog_7_method_20_code
def yX5_decisionOn : MethodName := ⟨RX5, "decisionOn", "(LGainTrees$Table;I)I"⟩
abbrev cX5_commonestLeft : ByteArray := prog_7_method_21_code
def yX5_commonestLeft : MethodName := ⟨RX5, "commonestLeft", "(LGainTrees$Table;)I"⟩
abbrev cX5_plain : ByteArray := prog_7_method_22_code
def yX5_plain : MethodName := ⟨RX5, "plain", "(II)I"⟩
def RX6 : String := "GainTrees$Scale"
def TX6 : u_T := fun k => match k with
  | 0 => ("GainTrees$Scale", "logs", "[I", true)
  | 1 => ("GainTrees$Scale", "factor", "[I", true)
  | 2 => ("GainTrees$Scale", "power", "[I", true)
  | 3 => ("GainTrees$Scale", "above", "LGainTrees$Product;", true)
  | _ => ("GainTrees$Scale", "below", "LGainTrees$Product;", true)
def tyX6 : Nat → FieldType := fun k => match k with
  | 0 => .array .int
  | 1 => .array .int
  | 2 => .array .int
  | 3 => .object "GainTrees$Product"
  | _ => .object "GainTrees$Product"
abbrev wsX60 : List Cond := u_ws RX6 TX6 5
theorem nmX6 : ∀ a, a < 5 → ∀ b, b < 5 → a ≠ b → (TX6 a).2.1 ≠ (TX6 b).2.1 := by decide +kernel
theorem tyX6_ok : ∀ k, k < 5 → parseFieldDescriptor (TX6 k).2.2.1 = some (tyX6 k) := by decide +kernel
abbrev cX6_init : ByteArray := prog_8_method_1_code
def yX6_init : MethodName := ⟨RX6, "<init>", "()V"⟩
abbrev cX6_logOf : ByteArray := prog_8_method_2_code
def yX6_logOf : MethodName := ⟨RX6, "logOf", "(I)I"⟩
abbrev cX6_factorOf : ByteArray := prog_8_method_3_code
def yX6_factorOf : MethodName := ⟨RX6, "factorOf", "(I)I"⟩
abbrev cX6_timesLog : ByteArray := prog_8_method_4_code
def yX6_timesLog : MethodName := ⟨RX6, "timesLog", "(I)J"⟩
abbrev cX6_weigh : ByteArray := prog_8_method_5_code
def yX6_weigh : MethodName := ⟨RX6, "weigh", "(LGainTrees$Split;)V"⟩
abbrev cX6_gainOf : ByteArray := prog_8_method_6_code
def yX6_gainOf : MethodName := ⟨RX6, "gainOf", "(LGainTrees$Split;)J"⟩
abbrev cX6_widthOf : ByteArray := prog_8_method_7_code
def yX6_widthOf : MethodName := ⟨RX6, "widthOf", "(LGainTrees$Split;)J"⟩
abbrev cX6_order : ByteArray := prog_8_method_8_code
def yX6_order : MethodName := ⟨RX6, "order", "(ILGainTrees$Split;LGainTrees$Split;)I"⟩
abbrev cX6_isUpToMean : ByteArray := prog_8_method_9_code
def yX6_isUpToMean : MethodName := ⟨RX6, "isUpToMean", "(LGainTrees$Split;[LGainTrees$Split;)Z"⟩
abbrev cX6_orderOfRatios : ByteArray := prog_8_method_10_code
def yX6_orderOfRatios : MethodName := ⟨RX6, "orderOfRatios", "(LGainTrees$Split;LGainTrees$Split;)I"⟩
abbrev cX6_orderOfSquares : ByteArray := prog_8_method_11_code
def yX6_orderOfSquares : MethodName := ⟨RX6, "orderOfSquares", "(LGainTrees$Split;LGainTrees$Split;)I"⟩
abbrev cX6_clearPowers : ByteArray := prog_8_method_12_code
def yX6_clearPowers : MethodName := ⟨RX6, "clearPowers", "()V"⟩
abbrev cX6_addPowers : ByteArray := prog_8_method_13_code
def yX6_addPowers : MethodName := ⟨RX6, "addPowers", "(LGainTrees$Split;I)V"⟩
abbrev cX6_addPower : ByteArray := prog_8_method_14_code
def yX6_addPower : MethodName := ⟨RX6, "addPower", "(II)V"⟩
abbrev cX6_sign : ByteArray := prog_8_method_15_code
def yX6_sign : MethodName := ⟨RX6, "sign", "()I"⟩
def RX7 : String := "GainTrees$Split"
def TX7 : u_T := fun k => match k with
  | 0 => ("GainTrees$Split", "attribute", "I", false)
  | 1 => ("GainTrees$Split", "values", "I", false)
  | 2 => ("GainTrees$Split", "cut", "I", false)
  | 3 => ("GainTrees$Split", "children", "I", false)
  | 4 => ("GainTrees$Split", "total", "I", false)
  | 5 => ("GainTrees$Split", "stands", "Z", false)
  | 6 => ("GainTrees$Split", "sizes", "[I", true)
  | 7 => ("GainTrees$Split", "counts", "[I", true)
  | 8 => ("GainTrees$Split", "weight", "J", false)
  | 9 => ("GainTrees$Split", "squares", "J", false)
  | _ => ("GainTrees$Split", "divisor", "J", false)
def tyX7 : Nat → FieldType := fun k => match k with
  | 0 => .int
  | 1 => .int
  | 2 => .int
  | 3 => .int
  | 4 => .int
  | 5 => .boolean
  | 6 => .array .int
  | 7 => .array .int
  | 8 => .long
  | 9 => .long
  | _ => .long
abbrev wsX70 : List Cond := u_ws RX7 TX7 11
theorem nmX7 : ∀ a, a < 11 → ∀ b, b < 11 → a ≠ b → (TX7 a).2.1 ≠ (TX7 b).2.1 := by decide +kernel
theorem tyX7_ok : ∀ k, k < 11 → parseFieldDescriptor (TX7 k).2.2.1 = some (tyX7 k) := by decide +kernel
abbrev cX7_init : ByteArray := prog_9_method_1_code
def yX7_init : MethodName := ⟨RX7, "<init>", "()V"⟩
abbrev cX7_open : ByteArray := prog_9_method_2_code
def yX7_open : MethodName := ⟨RX7, "open", "(III)V"⟩
abbrev cX7_branch : ByteArray := prog_9_method_3_code
def yX7_branch : MethodName := ⟨RX7, "branch", "(LGainTrees$Table;I)I"⟩
abbrev cX7_take : ByteArray := prog_9_method_4_code
def yX7_take : MethodName := ⟨RX7, "take", "(II)V"⟩
abbrev cX7_shift : ByteArray := prog_9_method_5_code
def yX7_shift : MethodName := ⟨RX7, "shift", "(I)V"⟩
abbrev cX7_mayBe : ByteArray := prog_9_method_6_code
def yX7_mayBe : MethodName := ⟨RX7, "mayBe", "(I)Z"⟩
abbrev cX7_copy : ByteArray := prog_9_method_7_code
def yX7_copy : MethodName := ⟨RX7, "copy", "(LGainTrees$Split;)V"⟩
abbrev cX7_addSquares : ByteArray := prog_9_method_8_code
def yX7_addSquares : MethodName := ⟨RX7, "addSquares", "()V"⟩
def RX8 : String := "GainTrees$Table"
def TX8 : u_T := fun k => match k with
  | 0 => ("GainTrees$Table", "most", "I", true)
  | 1 => ("GainTrees$Table", "cells", "[I", true)
  | _ => ("GainTrees$Table", "size", "I", false)
def tyX8 : Nat → FieldType := fun k => match k with
  | 0 => .int
  | 1 => .array .int
  | _ => .int
abbrev wsX80 : List Cond := u_ws RX8 TX8 3
theorem nmX8 : ∀ a, a < 3 → ∀ b, b < 3 → a ≠ b → (TX8 a).2.1 ≠ (TX8 b).2.1 := by decide +kernel
theorem tyX8_ok : ∀ k, k < 3 → parseFieldDescriptor (TX8 k).2.2.1 = some (tyX8 k) := by decide +kernel
abbrev cX8_init : ByteArray := prog_10_method_1_code
def yX8_init : MethodName := ⟨RX8, "<init>", "(I)V"⟩
abbrev cX8_isColumn : ByteArray := prog_10_method_2_code
def yX8_isColumn : MethodName := ⟨RX8, "isColumn", "(I)Z"⟩
abbrev cX8_cell : ByteArray := prog_10_method_3_code
def yX8_cell : MethodName := ⟨RX8, "cell", "(II)I"⟩
abbrev cX8_classOf : ByteArray := prog_10_method_4_code
def yX8_classOf : MethodName := ⟨RX8, "classOf", "(I)I"⟩
abbrev cX8_put : ByteArray := prog_10_method_5_code
def yX8_put : MethodName := ⟨RX8, "put", "(III)V"⟩
def RX9 : String := "GainTrees$Tree"
def TX9 : u_T := fun k => match k with
  | 0 => ("GainTrees$Tree", "attribute", "[I", true)
  | 1 => ("GainTrees$Tree", "cut", "[I", true)
  | 2 => ("GainTrees$Tree", "byCut", "[Z", true)
  | 3 => ("GainTrees$Tree", "result", "[I", true)
  | 4 => ("GainTrees$Tree", "amount", "[I", true)
  | 5 => ("GainTrees$Tree", "kids", "[I", true)
  | 6 => ("GainTrees$Tree", "depth", "[I", true)
  | 7 => ("GainTrees$Tree", "parent", "[I", true)
  | 8 => ("GainTrees$Tree", "place", "[I", true)
  | 9 => ("GainTrees$Tree", "counts", "[I", true)
  | 10 => ("GainTrees$Tree", "after", "[I", true)
  | 11 => ("GainTrees$Tree", "wrongHere", "[I", true)
  | 12 => ("GainTrees$Tree", "wrongBelow", "[I", true)
  | _ => ("GainTrees$Tree", "nodes", "I", false)
def tyX9 : Nat → FieldType := fun k => match k with
  | 0 => .array .int
  | 1 => .array .int
  | 2 => .array .boolean
  | 3 => .array .int
  | 4 => .array .int
  | 5 => .array .int
  | 6 => .array .int
  | 7 => .array .int
  | 8 => .array .int
  | 9 => .array .int
  | 10 => .array .int
  | 11 => .array .int
  | 12 => .array .int
  | _ => .int
abbrev wsX90 : List Cond := u_ws RX9 TX9 14
theorem nmX9 : ∀ a, a < 14 → ∀ b, b < 14 → a ≠ b → (TX9 a).2.1 ≠ (TX9 b).2.1 := by decide +kernel
theorem tyX9_ok : ∀ k, k < 14 → parseFieldDescriptor (TX9 k).2.2.1 = some (tyX9 k) := by decide +kernel
abbrev cX9_init : ByteArray := prog_11_method_1_code
def yX9_init : MethodName := ⟨RX9, "<init>", "()V"⟩
abbrev cX9_wipe : ByteArray := prog_11_method_2_code
def yX9_wipe : MethodName := ⟨RX9, "wipe", "()V"⟩
abbrev cX9_depthBelow : ByteArray := prog_11_method_3_code
def yX9_depthBelow : MethodName := ⟨RX9, "depthBelow", "(I)I"⟩
abbrev cX9_add : ByteArray := prog_11_method_4_code
def yX9_add : MethodName := ⟨RX9, "add", "(II)I"⟩
abbrev cX9_makeLeaf : ByteArray := prog_11_method_5_code
def yX9_makeLeaf : MethodName := ⟨RX9, "makeLeaf", "(I)V"⟩
abbrev cX9_fork : ByteArray := prog_11_method_6_code
def yX9_fork : MethodName := ⟨RX9, "fork", "(IIII)V"⟩
abbrev cX9_finish : ByteArray := prog_11_method_7_code
def yX9_finish : MethodName := ⟨RX9, "finish", "()V"⟩
abbrev cX9_childOf : ByteArray := prog_11_method_8_code
def yX9_childOf : MethodName := ⟨RX9, "childOf", "(II)I"⟩
abbrev cX9_childFor : ByteArray := prog_11_method_9_code
def yX9_childFor : MethodName := ⟨RX9, "childFor", "(ILGainTrees$Table;I)I"⟩
abbrev cX9_leafOf : ByteArray := prog_11_method_10_code
def yX9_leafOf : MethodName := ⟨RX9, "leafOf", "(LGainTrees$Table;I)I"⟩
abbrev cX9_decisionOn : ByteArray := prog_11_method_11_code
def yX9_decisionOn : MethodName := ⟨RX9, "decisionOn", "(LGainTrees$Table;I)I"⟩
abbrev cX9_comesTo : ByteArray := prog_11_method_12_code
def yX9_comesTo : MethodName := ⟨RX9, "comesTo", "(LGainTrees$Table;II)Z"⟩
abbrev cX9_note : ByteArray := prog_11_method_13_code
def yX9_note : MethodName := ⟨RX9, "note", "(II)V"⟩
abbrev cX9_receive : ByteArray := prog_11_method_14_code
def yX9_receive : MethodName := ⟨RX9, "receive", "(LGainTrees$Table;)V"⟩
abbrev cX9_commonest : ByteArray := prog_11_method_15_code
def yX9_commonest : MethodName := ⟨RX9, "commonest", "(I)I"⟩
abbrev cX9_plain : ByteArray := prog_11_method_16_code
def yX9_plain : MethodName := ⟨RX9, "plain", "(II)I"⟩
abbrev cX9_leaves : ByteArray := prog_11_method_17_code
def yX9_leaves : MethodName := ⟨RX9, "leaves", "()I"⟩
abbrev cX9_trim : ByteArray := prog_11_method_18_code
def yX9_trim : MethodName := ⟨RX9, "trim", "(LGainTrees$Table;)I"⟩
abbrev cX9_countWrong : ByteArray := prog_11_method_19_code
def yX9_countWrong : MethodName := ⟨RX9, "countWrong", "(LGainTrees$Table;)V"⟩
abbrev cX9_countWrongAt : ByteArray := prog_11_method_20_code
def yX9_countWrongAt : MethodName := ⟨RX9, "countWrongAt", "(II)V"⟩
abbrev cX9_closeUp : ByteArray := prog_11_method_21_code
def yX9_closeUp : MethodName := ⟨RX9, "closeUp", "()V"⟩
abbrev cX9_move : ByteArray := prog_11_method_22_code
def yX9_move : MethodName := ⟨RX9, "move", "(II)V"⟩
def RX10 : String := "GainTrees$Writer"
def TX10 : u_T := fun k => match k with
  | _ => ("GainTrees$Writer", "result", "LGainTrees$Bytes;", true)
def tyX10 : Nat → FieldType := fun k => match k with
  | _ => .object "GainTrees$Bytes"
abbrev wsX100 : List Cond := u_ws RX10 TX10 1
theorem nmX10 : ∀ a, a < 1 → ∀ b, b < 1 → a ≠ b → (TX10 a).2.1 ≠ (TX10 b).2.1 := by decide +kernel
theorem tyX10_ok : ∀ k, k < 1 → parseFieldDescriptor (TX10 k).2.2.1 = some (tyX10 k) := by decide +kernel
abbrev cX10_init : ByteArray := prog_12_method_1_code
def yX10_init : MethodName := ⟨RX10, "<init>", "(LGainTrees$Bytes;)V"⟩
abbrev cX10_gap : ByteArray := prog_12_method_2_code
def yX10_gap : MethodName := ⟨RX10, "gap", "()V"⟩
abbrev cX10_word : ByteArray := prog_12_method_3_code
def yX10_word : MethodName := ⟨RX10, "word", "(Ljava/lang/String;)V"⟩
abbrev cX10_nameIn : ByteArray := prog_12_method_4_code
def yX10_nameIn : MethodName := ⟨RX10, "nameIn", "(LGainTrees$Names;I)V"⟩
abbrev cX10_number : ByteArray := prog_12_method_5_code
def yX10_number : MethodName := ⟨RX10, "number", "(I)V"⟩
abbrev cX10_whole : ByteArray := prog_12_method_6_code
def yX10_whole : MethodName := ⟨RX10, "whole", "(I)V"⟩
abbrev cX10_writeTree : ByteArray := prog_12_method_7_code
def yX10_writeTree : MethodName := ⟨RX10, "writeTree", "(LGainTrees$Names;LGainTrees$Tree;)V"⟩
abbrev cX10_writeLabel : ByteArray := prog_12_method_8_code
def yX10_writeLabel : MethodName := ⟨RX10, "writeLabel", "(LGainTrees$Names;LGainTrees$Tree;I)V"⟩
abbrev cX10_closeForks : ByteArray := prog_12_method_9_code
def yX10_closeForks : MethodName := ⟨RX10, "closeForks", "(LGainTrees$Tree;I)V"⟩
abbrev cX10_writeRules : ByteArray := prog_12_method_10_code
def yX10_writeRules : MethodName := ⟨RX10, "writeRules", "(LGainTrees$Names;LGainTrees$Rules;)V"⟩
abbrev cX10_writeCondition : ByteArray := prog_12_method_11_code
def yX10_writeCondition : MethodName := ⟨RX10, "writeCondition", "(LGainTrees$Names;LGainTrees$Rules;I)V"⟩
def RX11 : String := "GainTrees"
def TX11 : u_T := fun k => match k with
  | 0 => ("GainTrees", "tape", "LGainTrees$Bytes;", true)
  | 1 => ("GainTrees", "result", "LGainTrees$Bytes;", true)
  | 2 => ("GainTrees", "reader", "LGainTrees$Reader;", true)
  | 3 => ("GainTrees", "writer", "LGainTrees$Writer;", true)
  | 4 => ("GainTrees", "training", "LGainTrees$Table;", true)
  | 5 => ("GainTrees", "holdout", "LGainTrees$Table;", true)
  | 6 => ("GainTrees", "single", "LGainTrees$Table;", true)
  | 7 => ("GainTrees", "scale", "LGainTrees$Scale;", true)
  | 8 => ("GainTrees", "grower", "LGainTrees$Grower;", true)
  | 9 => ("GainTrees", "first", "LGainTrees$Split;", true)
  | 10 => ("GainTrees", "second", "LGainTrees$Split;", true)
  | 11 => ("GainTrees", "made", "LGainTrees$Rules;", true)
  | 12 => ("GainTrees", "known", "LGainTrees$Names;", false)
  | 13 => ("GainTrees", "spareNames", "LGainTrees$Names;", false)
  | 14 => ("GainTrees", "grown", "LGainTrees$Tree;", false)
  | _ => ("GainTrees", "spareTree", "LGainTrees$Tree;", false)
def tyX11 : Nat → FieldType := fun k => match k with
  | 0 => .object "GainTrees$Bytes"
  | 1 => .object "GainTrees$Bytes"
  | 2 => .object "GainTrees$Reader"
  | 3 => .object "GainTrees$Writer"
  | 4 => .object "GainTrees$Table"
  | 5 => .object "GainTrees$Table"
  | 6 => .object "GainTrees$Table"
  | 7 => .object "GainTrees$Scale"
  | 8 => .object "GainTrees$Grower"
  | 9 => .object "GainTrees$Split"
  | 10 => .object "GainTrees$Split"
  | 11 => .object "GainTrees$Rules"
  | 12 => .object "GainTrees$Names"
  | 13 => .object "GainTrees$Names"
  | 14 => .object "GainTrees$Tree"
  | _ => .object "GainTrees$Tree"
abbrev wsX110 : List Cond := u_ws RX11 TX11 16
theorem nmX11 : ∀ a, a < 16 → ∀ b, b < 16 → a ≠ b → (TX11 a).2.1 ≠ (TX11 b).2.1 := by decide +kernel
theorem tyX11_ok : ∀ k, k < 16 → parseFieldDescriptor (TX11 k).2.2.1 = some (tyX11 k) := by decide +kernel
abbrev cX11_init : ByteArray := prog_1_method_1_code
def yX11_init : MethodName := ⟨RX11, "<init>", "()V"⟩
abbrev cX11_feed : ByteArray := prog_1_method_2_code
def yX11_feed : MethodName := ⟨RX11, "feed", "(IIIII)I"⟩
abbrev cX11_feedFour : ByteArray := prog_1_method_3_code
def yX11_feedFour : MethodName := ⟨RX11, "feedFour", "(I)V"⟩
abbrev cX11_end : ByteArray := prog_1_method_4_code
def yX11_end : MethodName := ⟨RX11, "end", "(I)Z"⟩
abbrev cX11_again : ByteArray := prog_1_method_5_code
def yX11_again : MethodName := ⟨RX11, "again", "()I"⟩
abbrev cX11_names : ByteArray := prog_1_method_6_code
def yX11_names : MethodName := ⟨RX11, "names", "()I"⟩
abbrev cX11_rows : ByteArray := prog_1_method_7_code
def yX11_rows : MethodName := ⟨RX11, "rows", "(I)I"⟩
abbrev cX11_clear : ByteArray := prog_1_method_8_code
def yX11_clear : MethodName := ⟨RX11, "clear", "(I)I"⟩
abbrev cX11_fault : ByteArray := prog_1_method_9_code
def yX11_fault : MethodName := ⟨RX11, "fault", "(I)I"⟩
abbrev cX11_row : ByteArray := prog_1_method_10_code
def yX11_row : MethodName := ⟨RX11, "row", "(III)I"⟩
abbrev cX11_grow : ByteArray := prog_1_method_11_code
def yX11_grow : MethodName := ⟨RX11, "grow", "(III)I"⟩
abbrev cX11_tree : ByteArray := prog_1_method_12_code
def yX11_tree : MethodName := ⟨RX11, "tree", "()I"⟩
abbrev cX11_prune : ByteArray := prog_1_method_13_code
def yX11_prune : MethodName := ⟨RX11, "prune", "()I"⟩
abbrev cX11_node : ByteArray := prog_1_method_14_code
def yX11_node : MethodName := ⟨RX11, "node", "(II)I"⟩
abbrev cX11_compare : ByteArray := prog_1_method_15_code
def yX11_compare : MethodName := ⟨RX11, "compare", "(IIIII)I"⟩
abbrev cX11_gain : ByteArray := prog_1_method_16_code
def yX11_gain : MethodName := ⟨RX11, "gain", "(IIII)I"⟩
abbrev cX11_decide : ByteArray := prog_1_method_17_code
def yX11_decide : MethodName := ⟨RX11, "decide", "(I)I"⟩
abbrev cX11_tried : ByteArray := prog_1_method_18_code
def yX11_tried : MethodName := ⟨RX11, "tried", "(IIII)I"⟩
abbrev cX11_errors : ByteArray := prog_1_method_19_code
def yX11_errors : MethodName := ⟨RX11, "errors", "(II)I"⟩
abbrev cX11_folds : ByteArray := prog_1_method_20_code
def yX11_folds : MethodName := ⟨RX11, "folds", "(IIII)I"⟩
abbrev cX11_rules : ByteArray := prog_1_method_21_code
def yX11_rules : MethodName := ⟨RX11, "rules", "()I"⟩
abbrev cX11_rule : ByteArray := prog_1_method_22_code
def yX11_rule : MethodName := ⟨RX11, "rule", "(II)I"⟩
abbrev cX11_condition : ByteArray := prog_1_method_23_code
def yX11_condition : MethodName := ⟨RX11, "condition", "(III)I"⟩
abbrev cX11_write : ByteArray := prog_1_method_24_code
def yX11_write : MethodName := ⟨RX11, "write", "(I)I"⟩
abbrev cX11_letter : ByteArray := prog_1_method_25_code
def yX11_letter : MethodName := ⟨RX11, "letter", "(I)I"⟩
abbrev cX11_count : ByteArray := prog_1_method_26_code
def yX11_count : MethodName := ⟨RX11, "count", "(I)I"⟩
abbrev cX11_needSet : ByteArray := prog_1_method_27_code
def yX11_needSet : MethodName := ⟨RX11, "needSet", "(I)V"⟩
abbrev cX11_needWay : ByteArray := prog_1_method_28_code
def yX11_needWay : MethodName := ⟨RX11, "needWay", "(I)V"⟩
abbrev cX11_needManner : ByteArray := prog_1_method_29_code
def yX11_needManner : MethodName := ⟨RX11, "needManner", "(III)V"⟩
abbrev cX11_needNames : ByteArray := prog_1_method_30_code
def yX11_needNames : MethodName := ⟨RX11, "needNames", "()V"⟩
abbrev cX11_needRows : ByteArray := prog_1_method_31_code
def yX11_needRows : MethodName := ⟨RX11, "needRows", "(I)V"⟩
abbrev cX11_needTree : ByteArray := prog_1_method_32_code
def yX11_needTree : MethodName := ⟨RX11, "needTree", "()V"⟩
abbrev cX11_needDecider : ByteArray := prog_1_method_33_code
def yX11_needDecider : MethodName := ⟨RX11, "needDecider", "(I)V"⟩
abbrev cX11_needNode : ByteArray := prog_1_method_34_code
def yX11_needNode : MethodName := ⟨RX11, "needNode", "(I)V"⟩
abbrev cX11_needNodeWithRows : ByteArray := prog_1_method_35_code
def yX11_needNodeWithRows : MethodName := ⟨RX11, "needNodeWithRows", "(I)V"⟩
abbrev cX11_needAttribute : ByteArray := prog_1_method_36_code
def yX11_needAttribute : MethodName := ⟨RX11, "needAttribute", "(I)V"⟩
abbrev cX11_tableOf : ByteArray := prog_1_method_37_code
def yX11_tableOf : MethodName := ⟨RX11, "tableOf", "(I)LGainTrees$Table;"⟩
abbrev cX11_decisionOn : ByteArray := prog_1_method_38_code
def yX11_decisionOn : MethodName := ⟨RX11, "decisionOn", "(ILGainTrees$Table;I)I"⟩
abbrev cX11_fillSplit : ByteArray := prog_1_method_39_code
def yX11_fillSplit : MethodName := ⟨RX11, "fillSplit", "(LGainTrees$Split;III)V"⟩
def RX12 : String := "GainTreesModel"
def TX12 : u_T := fun k => match k with
  | 0 => ("GainTreesModel", "thrown", "I", false)
  | 1 => ("GainTreesModel", "tape", "[I", true)
  | 2 => ("GainTreesModel", "taped", "I", false)
  | 3 => ("GainTreesModel", "at", "I", false)
  | 4 => ("GainTreesModel", "token", "I", false)
  | 5 => ("GainTreesModel", "place", "I", false)
  | 6 => ("GainTreesModel", "word", "J", false)
  | 7 => ("GainTreesModel", "number", "I", false)
  | 8 => ("GainTreesModel", "sign", "I", false)
  | 9 => ("GainTreesModel", "fault", "I", false)
  | 10 => ("GainTreesModel", "faultPlace", "I", false)
  | 11 => ("GainTreesModel", "toldFault", "I", false)
  | 12 => ("GainTreesModel", "toldPlace", "I", false)
  | 13 => ("GainTreesModel", "classesLetters", "[C", true)
  | 14 => ("GainTreesModel", "wClasses", "J", true)
  | 15 => ("GainTreesModel", "measuredLetters", "[C", true)
  | 16 => ("GainTreesModel", "wMeasured", "J", true)
  | 17 => ("GainTreesModel", "isLetters", "[C", true)
  | 18 => ("GainTreesModel", "wIs", "J", true)
  | 19 => ("GainTreesModel", "byLetters", "[C", true)
  | 20 => ("GainTreesModel", "wBy", "J", true)
  | 21 => ("GainTreesModel", "elseLetters", "[C", true)
  | 22 => ("GainTreesModel", "wElse", "J", true)
  | 23 => ("GainTreesModel", "classes", "I", false)
  | 24 => ("GainTreesModel", "attributes", "I", false)
  | 25 => ("GainTreesModel", "className", "[J", true)
  | 26 => ("GainTreesModel", "attributeName", "[J", true)
  | 27 => ("GainTreesModel", "valueName", "[J", true)
  | 28 => ("GainTreesModel", "values", "[I", true)
  | 29 => ("GainTreesModel", "newClasses", "I", false)
  | 30 => ("GainTreesModel", "newAttributes", "I", false)
  | 31 => ("GainTreesModel", "newClass", "[J", true)
  | 32 => ("GainTreesModel", "newAttribute", "[J", true)
  | 33 => ("GainTreesModel", "newValue", "[J", true)
  | 34 => ("GainTreesModel", "newValues", "[I", true)
  | 35 => ("GainTreesModel", "cell", "[I", true)
  | 36 => ("GainTreesModel", "many", "[I", true)
  | 37 => ("GainTreesModel", "told", "[I", true)
  | 38 => ("GainTreesModel", "fine", "[J", true)
  | 39 => ("GainTreesModel", "prime", "[I", true)
  | 40 => ("GainTreesModel", "split", "[I", true)
  | 41 => ("GainTreesModel", "power", "[I", true)
  | 42 => ("GainTreesModel", "factor", "[I", true)
  | 43 => ("GainTreesModel", "one", "[I", true)
  | 44 => ("GainTreesModel", "other", "[I", true)
  | 45 => ("GainTreesModel", "top", "J", false)
  | 46 => ("GainTreesModel", "bottom", "J", false)
  | 47 => ("GainTreesModel", "nodes", "I", false)
  | 48 => ("GainTreesModel", "trialNodes", "I", false)
  | 49 => ("GainTreesModel", "nAttribute", "[I", true)
  | 50 => ("GainTreesModel", "nCut", "[I", true)
  | 51 => ("GainTreesModel", "nClass", "[I", true)
  | 52 => ("GainTreesModel", "nRows", "[I", true)
  | 53 => ("GainTreesModel", "nCount", "[I", true)
  | 54 => ("GainTreesModel", "nKids", "[I", true)
  | 55 => ("GainTreesModel", "nDepth", "[I", true)
  | 56 => ("GainTreesModel", "kid", "[I", true)
  | 57 => ("GainTreesModel", "parent", "[I", true)
  | 58 => ("GainTreesModel", "order", "[I", true)
  | 59 => ("GainTreesModel", "sorted", "[I", true)
  | 60 => ("GainTreesModel", "waitParent", "[I", true)
  | 61 => ("GainTreesModel", "waitChild", "[I", true)
  | 62 => ("GainTreesModel", "waitFrom", "[I", true)
  | 63 => ("GainTreesModel", "waitTo", "[I", true)
  | 64 => ("GainTreesModel", "waits", "I", false)
  | 65 => ("GainTreesModel", "bestAttribute", "I", false)
  | 66 => ("GainTreesModel", "bestCut", "I", false)
  | 67 => ("GainTreesModel", "cutOf", "[I", true)
  | 68 => ("GainTreesModel", "hasSplit", "[Z", true)
  | 69 => ("GainTreesModel", "newNumber", "[I", true)
  | 70 => ("GainTreesModel", "hasRules", "Z", false)
  | 71 => ("GainTreesModel", "rules", "I", false)
  | 72 => ("GainTreesModel", "otherwise", "I", false)
  | 73 => ("GainTreesModel", "rClass", "[I", true)
  | 74 => ("GainTreesModel", "rMany", "[I", true)
  | 75 => ("GainTreesModel", "rCovered", "[I", true)
  | 76 => ("GainTreesModel", "rRight", "[I", true)
  | 77 => ("GainTreesModel", "rAttribute", "[I", true)
  | 78 => ("GainTreesModel", "rSort", "[I", true)
  | 79 => ("GainTreesModel", "rValue", "[I", true)
  | 80 => ("GainTreesModel", "broken", "[J", true)
  | 81 => ("GainTreesModel", "isCovered", "[Z", true)
  | 82 => ("GainTreesModel", "way", "[I", true)
  | 83 => ("GainTreesModel", "coveredNow", "I", false)
  | 84 => ("GainTreesModel", "rightNow", "I", false)
  | 85 => ("GainTreesModel", "result", "[I", true)
  | 86 => ("GainTreesModel", "resulted", "I", false)
  | 87 => ("GainTreesModel", "toDo", "[I", true)
  | 88 => ("GainTreesModel", "toDoOf", "[I", true)
  | 89 => ("GainTreesModel", "toDos", "I", false)
  | 90 => ("GainTreesModel", "ifLetters", "[C", true)
  | 91 => ("GainTreesModel", "wIf", "J", true)
  | 92 => ("GainTreesModel", "andLetters", "[C", true)
  | 93 => ("GainTreesModel", "wAnd", "J", true)
  | 94 => ("GainTreesModel", "thenLetters", "[C", true)
  | _ => ("GainTreesModel", "wThen", "J", true)
def tyX12 : Nat → FieldType := fun k => match k with
  | 0 => .int
  | 1 => .array .int
  | 2 => .int
  | 3 => .int
  | 4 => .int
  | 5 => .int
  | 6 => .long
  | 7 => .int
  | 8 => .int
  | 9 => .int
  | 10 => .int
  | 11 => .int
  | 12 => .int
  | 13 => .array .char
  | 14 => .long
  | 15 => .array .char
  | 16 => .long
  | 17 => .array .char
  | 18 => .long
  | 19 => .array .char
  | 20 => .long
  | 21 => .array .char
  | 22 => .long
  | 23 => .int
  | 24 => .int
  | 25 => .array .long
  | 26 => .array .long
  | 27 => .array .long
  | 28 => .array .int
  | 29 => .int
  | 30 => .int
  | 31 => .array .long
  | 32 => .array .long
  | 33 => .array .long
  | 34 => .array .int
  | 35 => .array .int
  | 36 => .array .int
  | 37 => .array .int
  | 38 => .array .long
  | 39 => .array .int
  | 40 => .array .int
  | 41 => .array .int
  | 42 => .array .int
  | 43 => .array .int
  | 44 => .array .int
  | 45 => .long
  | 46 => .long
  | 47 => .int
  | 48 => .int
  | 49 => .array .int
  | 50 => .array .int
  | 51 => .array .int
  | 52 => .array .int
  | 53 => .array .int
  | 54 => .array .int
  | 55 => .array .int
  | 56 => .array .int
  | 57 => .array .int
  | 58 => .array .int
  | 59 => .array .int
  | 60 => .array .int
  | 61 => .array .int
  | 62 => .array .int
  | 63 => .array .int
  | 64 => .int
  | 65 => .int
  | 66 => .int
  | 67 => .array .int
  | 68 => .array .boolean
  | 69 => .array .int
  | 70 => .boolean
  | 71 => .int
  | 72 => .int
  | 73 => .array .int
  | 74 => .array .int
  | 75 => .array .int
  | 76 => .array .int
  | 77 => .array .int
  | 78 => .array .int
  | 79 => .array .int
  | 80 => .array .long
  | 81 => .array .boolean
  | 82 => .array .int
  | 83 => .int
  | 84 => .int
  | 85 => .array .int
  | 86 => .int
  | 87 => .array .int
  | 88 => .array .int
  | 89 => .int
  | 90 => .array .char
  | 91 => .long
  | 92 => .array .char
  | 93 => .long
  | 94 => .array .char
  | _ => .long
abbrev wsX120 : List Cond := u_ws RX12 TX12 96
theorem nmX12 : ∀ a, a < 96 → ∀ b, b < 96 → a ≠ b → (TX12 a).2.1 ≠ (TX12 b).2.1 := by decide +kernel
theorem tyX12_ok : ∀ k, k < 96 → parseFieldDescriptor (TX12 k).2.2.1 = some (tyX12 k) := by decide +kernel
def RJ6 : String := "java/lang/Integer"
def TJ6 : u_T := fun k => match k with
  | _ => ("", "", "", false)
def tyJ6 : Nat → FieldType := fun k => match k with
  | _ => .int
abbrev wsJ60 : List Cond := u_ws RJ6 TJ6 0
theorem nmJ6 : ∀ a, a < 0 → ∀ b, b < 0 → a ≠ b → (TJ6 a).2.1 ≠ (TJ6 b).2.1 := by decide +kernel
theorem tyJ6_ok : ∀ k, k < 0 → parseFieldDescriptor (TJ6 k).2.2.1 = some (tyJ6 k) := by decide +kernel
abbrev cJ6_compare_7cf53 : ByteArray := prog_18_method_40_code
def yJ6_compare_7cf53 : MethodName := ⟨RJ6, "compare", "(II)I"⟩
def RJ13 : String := "java/lang/Long"
def TJ13 : u_T := fun k => match k with
  | _ => ("", "", "", false)
def tyJ13 : Nat → FieldType := fun k => match k with
  | _ => .int
abbrev wsJ130 : List Cond := u_ws RJ13 TJ13 0
theorem nmJ13 : ∀ a, a < 0 → ∀ b, b < 0 → a ≠ b → (TJ13 a).2.1 ≠ (TJ13 b).2.1 := by decide +kernel
theorem tyJ13_ok : ∀ k, k < 0 → parseFieldDescriptor (TJ13 k).2.2.1 = some (tyJ13 k) := by decide +kernel
abbrev cJ13_compare_74951 : ByteArray := prog_19_method_42_code
def yJ13_compare_74951 : MethodName := ⟨RJ13, "compare", "(JJ)I"⟩
def RJ9 : String := "java/lang/Math"
def TJ9 : u_T := fun k => match k with
  | _ => ("", "", "", false)
def tyJ9 : Nat → FieldType := fun k => match k with
  | _ => .int
abbrev wsJ90 : List Cond := u_ws RJ9 TJ9 0
theorem nmJ9 : ∀ a, a < 0 → ∀ b, b < 0 → a ≠ b → (TJ9 a).2.1 ≠ (TJ9 b).2.1 := by decide +kernel
theorem tyJ9_ok : ∀ k, k < 0 → parseFieldDescriptor (TJ9 k).2.2.1 = some (tyJ9 k) := by decide +kernel
abbrev cJ9_abs_0f7a4 : ByteArray := prog_20_method_59_code
def yJ9_abs_0f7a4 : MethodName := ⟨RJ9, "abs", "(I)I"⟩
abbrev cJ9_max_7cf53 : ByteArray := prog_20_method_65_code
def yJ9_max_7cf53 : MethodName := ⟨RJ9, "max", "(II)I"⟩
abbrev cJ9_min_7cf53 : ByteArray := prog_20_method_69_code
def yJ9_min_7cf53 : MethodName := ⟨RJ9, "min", "(II)I"⟩
def RJ0 : String := "java/lang/String"
def TJ0 : u_T := fun k => match k with
  | _ => ("", "", "", false)
def tyJ0 : Nat → FieldType := fun k => match k with
  | _ => .int
abbrev wsJ00 : List Cond := u_ws RJ0 TJ0 0
theorem nmJ0 : ∀ a, a < 0 → ∀ b, b < 0 → a ≠ b → (TJ0 a).2.1 ≠ (TJ0 b).2.1 := by decide +kernel
theorem tyJ0_ok : ∀ k, k < 0 → parseFieldDescriptor (TJ0 k).2.2.1 = some (tyJ0 k) := by decide +kernel
abbrev cJ0_length_8abf5 : ByteArray := prog_22_method_54_code
def yJ0_length_8abf5 : MethodName := ⟨RJ0, "length", "()I"⟩
abbrev cJ0_charAt_5068e : ByteArray := prog_22_method_56_code
def yJ0_charAt_5068e : MethodName := ⟨RJ0, "charAt", "(I)C"⟩
abbrev cJ0_coder_7d493 : ByteArray := prog_22_method_152_code
def yJ0_coder_7d493 : MethodName := ⟨RJ0, "coder", "()B"⟩
abbrev cJ0_isLatin1_aae02 : ByteArray := prog_22_method_154_code
def yJ0_isLatin1_aae02 : MethodName := ⟨RJ0, "isLatin1", "()Z"⟩
abbrev cJ0_checkIndex_df160 : ByteArray := prog_22_method_155_code
def yJ0_checkIndex_df160 : MethodName := ⟨RJ0, "checkIndex", "(II)V"⟩
def RJ1 : String := "java/lang/StringLatin1"
def TJ1 : u_T := fun k => match k with
  | _ => ("", "", "", false)
def tyJ1 : Nat → FieldType := fun k => match k with
  | _ => .int
abbrev wsJ10 : List Cond := u_ws RJ1 TJ1 0
theorem nmJ1 : ∀ a, a < 0 → ∀ b, b < 0 → a ≠ b → (TJ1 a).2.1 ≠ (TJ1 b).2.1 := by decide +kernel
theorem tyJ1_ok : ∀ k, k < 0 → parseFieldDescriptor (TJ1 k).2.2.1 = some (tyJ1 k) := by decide +kernel
abbrev cJ1_charAt_3b067 : ByteArray := prog_23_method_2_code
def yJ1_charAt_3b067 : MethodName := ⟨RJ1, "charAt", "([BI)C"⟩
def RJ2 : String := "java/lang/StringUTF16"
def TJ2 : u_T := fun k => match k with
  | _ => ("", "", "", false)
def tyJ2 : Nat → FieldType := fun k => match k with
  | _ => .int
abbrev wsJ20 : List Cond := u_ws RJ2 TJ2 0
theorem nmJ2 : ∀ a, a < 0 → ∀ b, b < 0 → a ≠ b → (TJ2 a).2.1 ≠ (TJ2 b).2.1 := by decide +kernel
theorem tyJ2_ok : ∀ k, k < 0 → parseFieldDescriptor (TJ2 k).2.2.1 = some (tyJ2 k) := by decide +kernel
abbrev cJ2_getChar_3b067 : ByteArray := prog_24_method_5_code
def yJ2_getChar_3b067 : MethodName := ⟨RJ2, "getChar", "([BI)C"⟩
abbrev cJ2_length_9d52b : ByteArray := prog_24_method_6_code
def yJ2_length_9d52b : MethodName := ⟨RJ2, "length", "([B)I"⟩
abbrev cJ2_charAt_3b067 : ByteArray := prog_24_method_83_code
def yJ2_charAt_3b067 : MethodName := ⟨RJ2, "charAt", "([BI)C"⟩
abbrev cJ2_checkIndex_2214a : ByteArray := prog_24_method_91_code
def yJ2_checkIndex_2214a : MethodName := ⟨RJ2, "checkIndex", "(I[B)V"⟩
def RJ10 : String := "java/lang/System"
def TJ10 : u_T := fun k => match k with
  | _ => ("", "", "", false)
def tyJ10 : Nat → FieldType := fun k => match k with
  | _ => .int
abbrev wsJ100 : List Cond := u_ws RJ10 TJ10 0
theorem nmJ10 : ∀ a, a < 0 → ∀ b, b < 0 → a ≠ b → (TJ10 a).2.1 ≠ (TJ10 b).2.1 := by decide +kernel
theorem tyJ10_ok : ∀ k, k < 0 → parseFieldDescriptor (TJ10 k).2.2.1 = some (tyJ10 k) := by decide +kernel
def RJ3 : String := "jdk/internal/util/Preconditions"
def TJ3 : u_T := fun k => match k with
  | _ => ("", "", "", false)
def tyJ3 : Nat → FieldType := fun k => match k with
  | _ => .int
abbrev wsJ30 : List Cond := u_ws RJ3 TJ3 0
theorem nmJ3 : ∀ a, a < 0 → ∀ b, b < 0 → a ≠ b → (TJ3 a).2.1 ≠ (TJ3 b).2.1 := by decide +kernel
theorem tyJ3_ok : ∀ k, k < 0 → parseFieldDescriptor (TJ3 k).2.2.1 = some (tyJ3 k) := by decide +kernel
abbrev cJ3_checkIndex_8e157 : ByteArray := prog_28_method_11_code
def yJ3_checkIndex_8e157 : MethodName := ⟨RJ3, "checkIndex", "(IILjava/util/function/BiFunction;)I"⟩
def RL : String := "GainTreesLaw"
def wsX0_init : List Cond := .code yX0_init cX0_init 2 none :: ([.methodLink RX0 3 objectInit, .instanceMethod objectInit, .code objectInit ⟨#[0xb1]⟩ 1 none, .methodLink RX0 9 Lib.Math.max.name, .static Lib.Math.max.name, .initialized "java/lang/Math", .code Lib.Math.max.name Lib.Math.max.code 2 (some .int), .arrayClass .byte, .fieldLink RX0 15 "GainTrees$Bytes" "data" "[B"] ++ wsX00)
def wsX0_shorten : List Cond := .code yX0_shorten cX0_shorten 2 none :: ([.fieldLink RX0 21 "GainTrees$Bytes" "kept" "I", .fieldLink RX0 25 "GainTrees$Bytes" "told" "I"] ++ wsX00)
def wsX0_add : List Cond := .code yX0_add cX0_add 2 none :: ([.fieldLink RX0 21 "GainTrees$Bytes" "kept" "I", .fieldLink RX0 15 "GainTrees$Bytes" "data" "[B", .fieldLink RX0 25 "GainTrees$Bytes" "told" "I"] ++ wsX00)
def wsX0_at : List Cond := .code yX0_at cX0_at 2 (some .int) :: ([.fieldLink RX0 21 "GainTrees$Bytes" "kept" "I", .fieldLink RX0 15 "GainTrees$Bytes" "data" "[B"] ++ wsX00)
def wsX7_init : List Cond := .code yX7_init cX7_init 1 none :: ([.methodLink RX7 3 objectInit, .instanceMethod objectInit, .code objectInit ⟨#[0xb1]⟩ 1 none, .arrayClass .int, .fieldLink RX7 9 "GainTrees$Split" "sizes" "[I", .fieldLink RX7 15 "GainTrees$Split" "counts" "[I"] ++ wsX70)
def wsX1_init_r1 : List Cond := [Cond.methodLink RX1 3 objectInit, Cond.instanceMethod objectInit, Cond.code objectInit ⟨#[0xb1]⟩ 1 none, Cond.arrayClass .int, Cond.fieldLink RX1 9 "GainTrees$Grower" "rows" "[I", Cond.fieldLink RX1 15 "GainTrees$Grower" "parted" "[I", Cond.fieldLink RX1 18 "GainTrees$Grower" "sorted" "[I", Cond.fieldLink RX1 21 "GainTrees$Grower" "mark" "[I", Cond.fieldLink RX1 24 "GainTrees$Grower" "parents" "[I", Cond.fieldLink RX1 27 "GainTrees$Grower" "places" "[I", Cond.fieldLink RX1 30 "GainTrees$Grower" "starts" "[I", Cond.fieldLink RX1 33 "GainTrees$Grower" "stops" "[I", Cond.classLink RX1 36 RX7, Cond.instantiable RX7 11, Cond.initialized RX7, Cond.fieldLink RX1 39 "GainTrees$Grower" "trial" "LGainTrees$Split;", Cond.fieldLink RX1 43 "GainTrees$Grower" "best" "[LGainTrees$Split;", Cond.fieldLink RX1 47 "GainTrees$Grower" "scale" "LGainTrees$Scale;", Cond.fieldLink RX1 51 "GainTrees$Grower" "table" "LGainTrees$Table;", Cond.fieldLink RX1 55 "GainTrees$Grower" "names" "LGainTrees$Names;", Cond.fieldLink RX1 59 "GainTrees$Grower" "tree" "LGainTrees$Tree;", Cond.instanceMethod yX7_init, Cond.code yX7_init cX7_init 1 none, Cond.methodLink RX7 3 objectInit]
def wsX1_init_r2 : List Cond := [Cond.fieldLink RX7 9 "GainTrees$Split" "sizes" "[I", Cond.fieldLink RX7 15 "GainTrees$Split" "counts" "[I"]
def wsX1_init : List Cond := .code yX1_init cX1_init 6 none :: ((wsX1_init_r1 ++ wsX1_init_r2) ++ wsX10 ++ wsX70)
def wsX1_aim : List Cond := .code yX1_aim cX1_aim 4 none :: ([.fieldLink RX1 63 "GainTrees$Grower" "mode" "I", .fieldLink RX1 67 "GainTrees$Grower" "least" "I", .fieldLink RX1 70 "GainTrees$Grower" "depth" "I"] ++ wsX10)
def wsX1_gather : List Cond := .code yX1_gather cX1_gather 4 none :: ([.fieldLink RX1 73 "GainTrees$Grower" "used" "I", .fieldLink RX1 51 "GainTrees$Grower" "table" "LGainTrees$Table;", .fieldLink RX1 76 "GainTrees$Table" "size" "I", .fieldLink RX1 21 "GainTrees$Grower" "mark" "[I", .fieldLink RX1 9 "GainTrees$Grower" "rows" "[I"] ++ wsX10 ++ wsX80)
def wsX9_wipe : List Cond := .code yX9_wipe cX9_wipe 1 none :: ([.fieldLink RX9 52 "GainTrees$Tree" "nodes" "I"] ++ wsX90)
def wsX2_valuesOf : List Cond := .code yX2_valuesOf cX2_valuesOf 2 (some .int) :: ([.fieldLink RX2 26 "GainTrees$Names" "attributes" "I", .fieldLink RX2 19 "GainTrees$Names" "values" "[I"] ++ wsX20)
def wsX8_isColumn : List Cond := .code yX8_isColumn cX8_isColumn 1 (some .boolean) :: ([])
def wsX8_cell : List Cond := .code yX8_cell cX8_cell 3 (some .int) :: ([.fieldLink RX8 15 "GainTrees$Table" "most" "I", .fieldLink RX8 21 "GainTrees$Table" "cells" "[I", .methodLink RX8 25 yX8_isColumn, .static yX8_isColumn, .initialized RX8, .code yX8_isColumn cX8_isColumn 1 (some .boolean)] ++ wsX80)
def wsX1_sortBy : List Cond := .code yX1_sortBy cX1_sortBy 7 none :: ([.fieldLink RX1 73 "GainTrees$Grower" "used" "I", .fieldLink RX1 9 "GainTrees$Grower" "rows" "[I", .fieldLink RX1 51 "GainTrees$Grower" "table" "LGainTrees$Table;", .fieldLink RX1 18 "GainTrees$Grower" "sorted" "[I", .methodLink RX1 147 yX8_cell, .instanceMethod yX8_cell, .selects RX8 yX8_cell yX8_cell, .initialized RX8, .code yX8_cell cX8_cell 3 (some .int), .fieldLink RX8 15 "GainTrees$Table" "most" "I", .fieldLink RX8 21 "GainTrees$Table" "cells" "[I", .methodLink RX8 25 yX8_isColumn, .static yX8_isColumn, .code yX8_isColumn cX8_isColumn 1 (some .boolean)] ++ wsX10 ++ wsX80)
def wsX1_sortRows_r1 : List Cond := [Cond.fieldLink RX1 55 "GainTrees$Grower" "names" "LGainTrees$Names;", Cond.fieldLink RX1 134 "GainTrees$Names" "attributes" "I", Cond.methodLink RX1 139 yX2_valuesOf, Cond.instanceMethod yX2_valuesOf, Cond.selects RX2 yX2_valuesOf yX2_valuesOf, Cond.initialized RX2, Cond.code yX2_valuesOf cX2_valuesOf 2 (some .int), Cond.fieldLink RX2 26 "GainTrees$Names" "attributes" "I", Cond.fieldLink RX2 19 "GainTrees$Names" "values" "[I", Cond.methodLink RX1 143 yX1_sortBy, Cond.instanceMethod yX1_sortBy, Cond.selects RX1 yX1_sortBy yX1_sortBy, Cond.initialized RX1, Cond.code yX1_sortBy cX1_sortBy 7 none, Cond.fieldLink RX1 73 "GainTrees$Grower" "used" "I", Cond.fieldLink RX1 9 "GainTrees$Grower" "rows" "[I", Cond.fieldLink RX1 51 "GainTrees$Grower" "table" "LGainTrees$Table;", Cond.fieldLink RX1 18 "GainTrees$Grower" "sorted" "[I", Cond.methodLink RX1 147 yX8_cell, Cond.instanceMethod yX8_cell, Cond.selects RX8 yX8_cell yX8_cell, Cond.initialized RX8, Cond.code yX8_cell cX8_cell 3 (some .int), Cond.fieldLink RX8 15 "GainTrees$Table" "most" "I"]
def wsX1_sortRows_r2 : List Cond := [Cond.fieldLink RX8 21 "GainTrees$Table" "cells" "[I", Cond.methodLink RX8 25 yX8_isColumn, Cond.static yX8_isColumn, Cond.code yX8_isColumn cX8_isColumn 1 (some .boolean)]
def wsX1_sortRows : List Cond := .code yX1_sortRows cX1_sortRows 2 none :: ((wsX1_sortRows_r1 ++ wsX1_sortRows_r2) ++ wsX10 ++ wsX20 ++ wsX80)
def wsX1_push : List Cond := .code yX1_push cX1_push 5 none :: ([.fieldLink RX1 89 "GainTrees$Grower" "waiting" "I", .fieldLink RX1 24 "GainTrees$Grower" "parents" "[I", .fieldLink RX1 27 "GainTrees$Grower" "places" "[I", .fieldLink RX1 30 "GainTrees$Grower" "starts" "[I", .fieldLink RX1 33 "GainTrees$Grower" "stops" "[I"] ++ wsX10)
def wsX9_depthBelow : List Cond := .code yX9_depthBelow cX9_depthBelow 2 (some .int) :: ([.fieldLink RX9 52 "GainTrees$Tree" "nodes" "I", .fieldLink RX9 31 "GainTrees$Tree" "depth" "[I"] ++ wsX90)
def wsX9_makeLeaf : List Cond := .code yX9_makeLeaf cX9_makeLeaf 2 none :: ([.fieldLink RX9 9 "GainTrees$Tree" "attribute" "[I", .fieldLink RX9 15 "GainTrees$Tree" "cut" "[I", .fieldLink RX9 18 "GainTrees$Tree" "byCut" "[Z", .fieldLink RX9 28 "GainTrees$Tree" "kids" "[I"] ++ wsX90)
def wsX9_add : List Cond := .code yX9_add cX9_add 5 (some .int) :: ([.fieldLink RX9 52 "GainTrees$Tree" "nodes" "I", .fieldLink RX9 31 "GainTrees$Tree" "depth" "[I", .fieldLink RX9 34 "GainTrees$Tree" "parent" "[I", .fieldLink RX9 37 "GainTrees$Tree" "place" "[I", .fieldLink RX9 22 "GainTrees$Tree" "result" "[I", .fieldLink RX9 25 "GainTrees$Tree" "amount" "[I", .fieldLink RX9 40 "GainTrees$Tree" "counts" "[I", .methodLink RX9 56 yX9_depthBelow, .instanceMethod yX9_depthBelow, .selects RX9 yX9_depthBelow yX9_depthBelow, .initialized RX9, .code yX9_depthBelow cX9_depthBelow 2 (some .int), .methodLink RX9 60 yX9_makeLeaf, .instanceMethod yX9_makeLeaf, .selects RX9 yX9_makeLeaf yX9_makeLeaf, .code yX9_makeLeaf cX9_makeLeaf 2 none, .fieldLink RX9 9 "GainTrees$Tree" "attribute" "[I", .fieldLink RX9 15 "GainTrees$Tree" "cut" "[I", .fieldLink RX9 18 "GainTrees$Tree" "byCut" "[Z", .fieldLink RX9 28 "GainTrees$Tree" "kids" "[I"] ++ wsX90)
def wsX8_classOf : List Cond := .code yX8_classOf cX8_classOf 2 (some .int) :: ([.methodLink RX8 29 yX8_cell, .instanceMethod yX8_cell, .selects RX8 yX8_cell yX8_cell, .initialized RX8, .code yX8_cell cX8_cell 3 (some .int), .fieldLink RX8 15 "GainTrees$Table" "most" "I", .fieldLink RX8 21 "GainTrees$Table" "cells" "[I", .methodLink RX8 25 yX8_isColumn, .static yX8_isColumn, .code yX8_isColumn cX8_isColumn 1 (some .boolean)] ++ wsX80)
def wsX9_note : List Cond := .code yX9_note cX9_note 3 none :: ([.fieldLink RX9 52 "GainTrees$Tree" "nodes" "I", .fieldLink RX9 25 "GainTrees$Tree" "amount" "[I", .fieldLink RX9 40 "GainTrees$Tree" "counts" "[I"] ++ wsX90)
def wsX9_commonest : List Cond := .code yX9_commonest cX9_commonest 4 (some .int) :: ([.fieldLink RX9 25 "GainTrees$Tree" "amount" "[I", .fieldLink RX9 34 "GainTrees$Tree" "parent" "[I", .fieldLink RX9 22 "GainTrees$Tree" "result" "[I", .fieldLink RX9 40 "GainTrees$Tree" "counts" "[I"] ++ wsX90)
def wsX1_isLeaf_r1 : List Cond := [Cond.fieldLink RX1 21 "GainTrees$Grower" "mark" "[I", Cond.fieldLink RX1 9 "GainTrees$Grower" "rows" "[I", Cond.fieldLink RX1 59 "GainTrees$Grower" "tree" "LGainTrees$Tree;", Cond.fieldLink RX1 51 "GainTrees$Grower" "table" "LGainTrees$Table;", Cond.fieldLink RX1 160 "GainTrees$Tree" "result" "[I", Cond.fieldLink RX1 163 "GainTrees$Tree" "counts" "[I", Cond.fieldLink RX1 166 "GainTrees$Tree" "depth" "[I", Cond.fieldLink RX1 70 "GainTrees$Grower" "depth" "I", Cond.methodLink RX1 150 yX8_classOf, Cond.instanceMethod yX8_classOf, Cond.selects RX8 yX8_classOf yX8_classOf, Cond.initialized RX8, Cond.code yX8_classOf cX8_classOf 2 (some .int), Cond.methodLink RX8 29 yX8_cell, Cond.instanceMethod yX8_cell, Cond.selects RX8 yX8_cell yX8_cell, Cond.code yX8_cell cX8_cell 3 (some .int), Cond.fieldLink RX8 15 "GainTrees$Table" "most" "I", Cond.fieldLink RX8 21 "GainTrees$Table" "cells" "[I", Cond.methodLink RX8 25 yX8_isColumn, Cond.static yX8_isColumn, Cond.code yX8_isColumn cX8_isColumn 1 (some .boolean), Cond.methodLink RX1 153 yX9_note, Cond.instanceMethod yX9_note]
def wsX1_isLeaf_r2 : List Cond := [Cond.selects RX9 yX9_note yX9_note, Cond.initialized RX9, Cond.code yX9_note cX9_note 3 none, Cond.fieldLink RX9 52 "GainTrees$Tree" "nodes" "I", Cond.fieldLink RX9 25 "GainTrees$Tree" "amount" "[I", Cond.fieldLink RX9 40 "GainTrees$Tree" "counts" "[I", Cond.methodLink RX1 157 yX9_commonest, Cond.instanceMethod yX9_commonest, Cond.selects RX9 yX9_commonest yX9_commonest, Cond.code yX9_commonest cX9_commonest 4 (some .int), Cond.fieldLink RX9 34 "GainTrees$Tree" "parent" "[I", Cond.fieldLink RX9 22 "GainTrees$Tree" "result" "[I"]
def wsX1_isLeaf : List Cond := .code yX1_isLeaf cX1_isLeaf 5 (some .boolean) :: ((wsX1_isLeaf_r1 ++ wsX1_isLeaf_r2) ++ wsX10 ++ wsX90 ++ wsX80)
def wsX7_open : List Cond := .code yX7_open cX7_open 5 none :: ([.fieldLink RX7 18 "GainTrees$Split" "attribute" "I", .methodLink RX7 22 Lib.Math.max.name, .static Lib.Math.max.name, .initialized "java/lang/Math", .code Lib.Math.max.name Lib.Math.max.code 2 (some .int), .methodLink RX7 28 Lib.Math.min.name, .static Lib.Math.min.name, .code Lib.Math.min.name Lib.Math.min.code 2 (some .int), .fieldLink RX7 31 "GainTrees$Split" "values" "I", .fieldLink RX7 34 "GainTrees$Split" "cut" "I", .fieldLink RX7 37 "GainTrees$Split" "children" "I", .fieldLink RX7 40 "GainTrees$Split" "total" "I", .fieldLink RX7 43 "GainTrees$Split" "stands" "Z", .fieldLink RX7 9 "GainTrees$Split" "sizes" "[I", .fieldLink RX7 15 "GainTrees$Split" "counts" "[I"] ++ wsX70)
def wsX7_take : List Cond := .code yX7_take cX7_take 3 none :: ([.fieldLink RX7 37 "GainTrees$Split" "children" "I", .fieldLink RX7 9 "GainTrees$Split" "sizes" "[I", .fieldLink RX7 15 "GainTrees$Split" "counts" "[I", .fieldLink RX7 40 "GainTrees$Split" "total" "I"] ++ wsX70)
def wsX7_mayBe : List Cond := .code yX7_mayBe cX7_mayBe 4 (some .boolean) :: ([.fieldLink RX7 37 "GainTrees$Split" "children" "I", .fieldLink RX7 9 "GainTrees$Split" "sizes" "[I"] ++ wsX70)
def wsX7_addSquares : List Cond := .code yX7_addSquares cX7_addSquares 7 none :: ([.fieldLink RX7 56 "GainTrees$Split" "squares" "J", .fieldLink RX7 59 "GainTrees$Split" "divisor" "J", .fieldLink RX7 37 "GainTrees$Split" "children" "I", .fieldLink RX7 15 "GainTrees$Split" "counts" "[I", .fieldLink RX7 9 "GainTrees$Split" "sizes" "[I"] ++ wsX70)
def wsX6_timesLog : List Cond := .code yX6_timesLog cX6_timesLog 2 (some .long) :: ([.fieldLink RX6 9 "GainTrees$Scale" "logs" "[I"] ++ wsX60)
def wsX6_weigh : List Cond := .code yX6_weigh cX6_weigh 6 none :: ([.fieldLink RX6 40 "GainTrees$Split" "children" "I", .fieldLink RX6 46 "GainTrees$Split" "sizes" "[I", .fieldLink RX6 53 "GainTrees$Split" "counts" "[I", .fieldLink RX6 56 "GainTrees$Split" "weight" "J", .methodLink RX6 49 yX6_timesLog, .instanceMethod yX6_timesLog, .selects RX6 yX6_timesLog yX6_timesLog, .initialized RX6, .code yX6_timesLog cX6_timesLog 2 (some .long), .fieldLink RX6 9 "GainTrees$Scale" "logs" "[I"] ++ wsX70 ++ wsX60)
def wsJ13_compare_74951 : List Cond := .code yJ13_compare_74951 cJ13_compare_74951 4 (some .int) :: ([])
def wsX6_orderOfSquares : List Cond := .code yX6_orderOfSquares cX6_orderOfSquares 19 (some .int) :: ([.fieldLink RX6 97 "GainTrees$Split" "squares" "J", .fieldLink RX6 100 "GainTrees$Split" "divisor" "J", .methodLink RX6 91 yJ13_compare_74951, .static yJ13_compare_74951, .initialized RJ13, .code yJ13_compare_74951 cJ13_compare_74951 4 (some .int)] ++ wsX70)
def wsX6_clearPowers : List Cond := .code yX6_clearPowers cX6_clearPowers 2 none :: ([.fieldLink RX6 18 "GainTrees$Scale" "power" "[I"] ++ wsX60)
def wsX6_addPower : List Cond := .code yX6_addPower cX6_addPower 3 none :: ([.fieldLink RX6 18 "GainTrees$Scale" "power" "[I"] ++ wsX60)
def wsX6_addPowers : List Cond := .code yX6_addPowers cX6_addPowers 5 none :: ([.fieldLink RX6 40 "GainTrees$Split" "children" "I", .fieldLink RX6 46 "GainTrees$Split" "sizes" "[I", .fieldLink RX6 53 "GainTrees$Split" "counts" "[I", .methodLink RX6 103 yX6_addPower, .instanceMethod yX6_addPower, .selects RX6 yX6_addPower yX6_addPower, .initialized RX6, .code yX6_addPower cX6_addPower 3 none, .fieldLink RX6 18 "GainTrees$Scale" "power" "[I"] ++ wsX70 ++ wsX60)
def wsX3_begin : List Cond := .code yX3_begin cX3_begin 1 none :: ([.fieldLink RX3 9 "GainTrees$Product" "limbs" "[I", .fieldLink RX3 13 "GainTrees$Product" "used" "I"] ++ wsX30)
def wsX3_raise : List Cond := .code yX3_raise cX3_raise 11 none :: ([.constantLong RX3 17 (4194304), .fieldLink RX3 13 "GainTrees$Product" "used" "I", .fieldLink RX3 9 "GainTrees$Product" "limbs" "[I", .constantLong RX3 19 (2147483647)] ++ wsX30)
def wsX3_order : List Cond := .code yX3_order cX3_order 3 (some .int) :: ([.fieldLink RX3 13 "GainTrees$Product" "used" "I", .fieldLink RX3 9 "GainTrees$Product" "limbs" "[I"] ++ wsX30)
def wsX6_sign_r1 : List Cond := [Cond.fieldLink RX6 18 "GainTrees$Scale" "power" "[I", Cond.fieldLink RX6 9 "GainTrees$Scale" "logs" "[I", Cond.constantLong RX6 67 (2), Cond.methodLink RX6 107 Lib.Math.abs.name, Cond.static Lib.Math.abs.name, Cond.initialized "java/lang/Math", Cond.code Lib.Math.abs.name Lib.Math.abs.code 1 (some .int), Cond.fieldLink RX6 24 "GainTrees$Scale" "above" "LGainTrees$Product;", Cond.fieldLink RX6 28 "GainTrees$Scale" "below" "LGainTrees$Product;", Cond.fieldLink RX6 15 "GainTrees$Scale" "factor" "[I", Cond.methodLink RX6 112 yX3_begin, Cond.instanceMethod yX3_begin, Cond.selects RX3 yX3_begin yX3_begin, Cond.initialized RX3, Cond.code yX3_begin cX3_begin 1 none, Cond.fieldLink RX3 9 "GainTrees$Product" "limbs" "[I", Cond.fieldLink RX3 13 "GainTrees$Product" "used" "I", Cond.methodLink RX6 115 yX3_raise, Cond.instanceMethod yX3_raise, Cond.selects RX3 yX3_raise yX3_raise, Cond.code yX3_raise cX3_raise 11 none, Cond.constantLong RX3 17 (4194304), Cond.constantLong RX3 19 (2147483647), Cond.methodLink RX6 118 yX3_order]
def wsX6_sign_r2 : List Cond := [Cond.instanceMethod yX3_order, Cond.selects RX3 yX3_order yX3_order, Cond.code yX3_order cX3_order 3 (some .int)]
def wsX6_sign : List Cond := .code yX6_sign cX6_sign 7 (some .int) :: ((wsX6_sign_r1 ++ wsX6_sign_r2) ++ wsX60 ++ wsX30)
def wsX6_order_r1 : List Cond := [Cond.constantLong RX6 67 (2), Cond.fieldLink RX6 60 "GainTrees$Split" "total" "I", Cond.fieldLink RX6 56 "GainTrees$Split" "weight" "J", Cond.methodLink RX6 63 yX6_orderOfSquares, Cond.static yX6_orderOfSquares, Cond.initialized RX6, Cond.code yX6_orderOfSquares cX6_orderOfSquares 19 (some .int), Cond.fieldLink RX6 97 "GainTrees$Split" "squares" "J", Cond.fieldLink RX6 100 "GainTrees$Split" "divisor" "J", Cond.methodLink RX6 91 yJ13_compare_74951, Cond.static yJ13_compare_74951, Cond.initialized RJ13, Cond.code yJ13_compare_74951 cJ13_compare_74951 4 (some .int), Cond.methodLink RX6 69 yX6_clearPowers, Cond.instanceMethod yX6_clearPowers, Cond.selects RX6 yX6_clearPowers yX6_clearPowers, Cond.code yX6_clearPowers cX6_clearPowers 2 none, Cond.fieldLink RX6 18 "GainTrees$Scale" "power" "[I", Cond.methodLink RX6 72 yX6_addPowers, Cond.instanceMethod yX6_addPowers, Cond.selects RX6 yX6_addPowers yX6_addPowers, Cond.code yX6_addPowers cX6_addPowers 5 none, Cond.fieldLink RX6 40 "GainTrees$Split" "children" "I", Cond.fieldLink RX6 46 "GainTrees$Split" "sizes" "[I"]
def wsX6_order_r2 : List Cond := [Cond.fieldLink RX6 53 "GainTrees$Split" "counts" "[I", Cond.methodLink RX6 103 yX6_addPower, Cond.instanceMethod yX6_addPower, Cond.selects RX6 yX6_addPower yX6_addPower, Cond.code yX6_addPower cX6_addPower 3 none, Cond.methodLink RX6 76 yX6_sign, Cond.instanceMethod yX6_sign, Cond.selects RX6 yX6_sign yX6_sign, Cond.code yX6_sign cX6_sign 7 (some .int), Cond.fieldLink RX6 9 "GainTrees$Scale" "logs" "[I", Cond.methodLink RX6 107 Lib.Math.abs.name, Cond.static Lib.Math.abs.name, Cond.initialized "java/lang/Math", Cond.code Lib.Math.abs.name Lib.Math.abs.code 1 (some .int), Cond.fieldLink RX6 24 "GainTrees$Scale" "above" "LGainTrees$Product;", Cond.fieldLink RX6 28 "GainTrees$Scale" "below" "LGainTrees$Product;", Cond.fieldLink RX6 15 "GainTrees$Scale" "factor" "[I", Cond.methodLink RX6 112 yX3_begin, Cond.instanceMethod yX3_begin, Cond.selects RX3 yX3_begin yX3_begin, Cond.initialized RX3, Cond.code yX3_begin cX3_begin 1 none, Cond.fieldLink RX3 9 "GainTrees$Product" "limbs" "[I", Cond.fieldLink RX3 13 "GainTrees$Product" "used" "I"]
def wsX6_order_r3 : List Cond := [Cond.methodLink RX6 115 yX3_raise, Cond.instanceMethod yX3_raise, Cond.selects RX3 yX3_raise yX3_raise, Cond.code yX3_raise cX3_raise 11 none, Cond.constantLong RX3 17 (4194304), Cond.constantLong RX3 19 (2147483647), Cond.methodLink RX6 118 yX3_order, Cond.instanceMethod yX3_order, Cond.selects RX3 yX3_order yX3_order, Cond.code yX3_order cX3_order 3 (some .int)]
def wsX6_order : List Cond := .code yX6_order cX6_order 6 (some .int) :: ((wsX6_order_r1 ++ (wsX6_order_r2 ++ wsX6_order_r3)) ++ wsX70 ++ wsX60 ++ wsX30)
def wsX7_copy : List Cond := .code yX7_copy cX7_copy 2 none :: ([.fieldLink RX7 18 "GainTrees$Split" "attribute" "I", .fieldLink RX7 31 "GainTrees$Split" "values" "I", .fieldLink RX7 34 "GainTrees$Split" "cut" "I", .fieldLink RX7 37 "GainTrees$Split" "children" "I", .fieldLink RX7 40 "GainTrees$Split" "total" "I", .fieldLink RX7 43 "GainTrees$Split" "stands" "Z", .fieldLink RX7 52 "GainTrees$Split" "weight" "J", .fieldLink RX7 56 "GainTrees$Split" "squares" "J", .fieldLink RX7 59 "GainTrees$Split" "divisor" "J", .fieldLink RX7 9 "GainTrees$Split" "sizes" "[I", .methodLink RX7 62 arraycopyName, .native arraycopyName, .static arraycopyName, .initialized "java/lang/System", .fieldLink RX7 15 "GainTrees$Split" "counts" "[I"] ++ wsX70)
def wsX1_offer_r1 : List Cond := [Cond.fieldLink RX1 39 "GainTrees$Grower" "trial" "LGainTrees$Split;", Cond.fieldLink RX1 67 "GainTrees$Grower" "least" "I", Cond.fieldLink RX1 63 "GainTrees$Grower" "mode" "I", Cond.fieldLink RX1 47 "GainTrees$Grower" "scale" "LGainTrees$Scale;", Cond.fieldLink RX1 168 "GainTrees$Split" "stands" "Z", Cond.methodLink RX1 200 yX7_mayBe, Cond.instanceMethod yX7_mayBe, Cond.selects RX7 yX7_mayBe yX7_mayBe, Cond.initialized RX7, Cond.code yX7_mayBe cX7_mayBe 4 (some .boolean), Cond.fieldLink RX7 37 "GainTrees$Split" "children" "I", Cond.fieldLink RX7 9 "GainTrees$Split" "sizes" "[I", Cond.methodLink RX1 204 yX7_addSquares, Cond.instanceMethod yX7_addSquares, Cond.selects RX7 yX7_addSquares yX7_addSquares, Cond.code yX7_addSquares cX7_addSquares 7 none, Cond.fieldLink RX7 56 "GainTrees$Split" "squares" "J", Cond.fieldLink RX7 59 "GainTrees$Split" "divisor" "J", Cond.fieldLink RX7 15 "GainTrees$Split" "counts" "[I", Cond.methodLink RX1 207 yX6_weigh, Cond.instanceMethod yX6_weigh, Cond.selects RX6 yX6_weigh yX6_weigh, Cond.initialized RX6, Cond.code yX6_weigh cX6_weigh 6 none]
def wsX1_offer_r2 : List Cond := [Cond.fieldLink RX6 40 "GainTrees$Split" "children" "I", Cond.fieldLink RX6 46 "GainTrees$Split" "sizes" "[I", Cond.fieldLink RX6 53 "GainTrees$Split" "counts" "[I", Cond.fieldLink RX6 56 "GainTrees$Split" "weight" "J", Cond.methodLink RX6 49 yX6_timesLog, Cond.instanceMethod yX6_timesLog, Cond.selects RX6 yX6_timesLog yX6_timesLog, Cond.code yX6_timesLog cX6_timesLog 2 (some .long), Cond.fieldLink RX6 9 "GainTrees$Scale" "logs" "[I", Cond.methodLink RX1 212 yX6_order, Cond.instanceMethod yX6_order, Cond.selects RX6 yX6_order yX6_order, Cond.code yX6_order cX6_order 6 (some .int), Cond.constantLong RX6 67 (2), Cond.fieldLink RX6 60 "GainTrees$Split" "total" "I", Cond.methodLink RX6 63 yX6_orderOfSquares, Cond.static yX6_orderOfSquares, Cond.code yX6_orderOfSquares cX6_orderOfSquares 19 (some .int), Cond.fieldLink RX6 97 "GainTrees$Split" "squares" "J", Cond.fieldLink RX6 100 "GainTrees$Split" "divisor" "J", Cond.methodLink RX6 91 yJ13_compare_74951, Cond.static yJ13_compare_74951, Cond.initialized RJ13, Cond.code yJ13_compare_74951 cJ13_compare_74951 4 (some .int)]
def wsX1_offer_r3 : List Cond := [Cond.methodLink RX6 69 yX6_clearPowers, Cond.instanceMethod yX6_clearPowers, Cond.selects RX6 yX6_clearPowers yX6_clearPowers, Cond.code yX6_clearPowers cX6_clearPowers 2 none, Cond.fieldLink RX6 18 "GainTrees$Scale" "power" "[I", Cond.methodLink RX6 72 yX6_addPowers, Cond.instanceMethod yX6_addPowers, Cond.selects RX6 yX6_addPowers yX6_addPowers, Cond.code yX6_addPowers cX6_addPowers 5 none, Cond.methodLink RX6 103 yX6_addPower, Cond.instanceMethod yX6_addPower, Cond.selects RX6 yX6_addPower yX6_addPower, Cond.code yX6_addPower cX6_addPower 3 none, Cond.methodLink RX6 76 yX6_sign, Cond.instanceMethod yX6_sign, Cond.selects RX6 yX6_sign yX6_sign, Cond.code yX6_sign cX6_sign 7 (some .int), Cond.methodLink RX6 107 Lib.Math.abs.name, Cond.static Lib.Math.abs.name, Cond.initialized "java/lang/Math", Cond.code Lib.Math.abs.name Lib.Math.abs.code 1 (some .int), Cond.fieldLink RX6 24 "GainTrees$Scale" "above" "LGainTrees$Product;", Cond.fieldLink RX6 28 "GainTrees$Scale" "below" "LGainTrees$Product;", Cond.fieldLink RX6 15 "GainTrees$Scale" "factor" "[I"]
def wsX1_offer_r4 : List Cond := [Cond.methodLink RX6 112 yX3_begin, Cond.instanceMethod yX3_begin, Cond.selects RX3 yX3_begin yX3_begin, Cond.initialized RX3, Cond.code yX3_begin cX3_begin 1 none, Cond.fieldLink RX3 9 "GainTrees$Product" "limbs" "[I", Cond.fieldLink RX3 13 "GainTrees$Product" "used" "I", Cond.methodLink RX6 115 yX3_raise, Cond.instanceMethod yX3_raise, Cond.selects RX3 yX3_raise yX3_raise, Cond.code yX3_raise cX3_raise 11 none, Cond.constantLong RX3 17 (4194304), Cond.constantLong RX3 19 (2147483647), Cond.methodLink RX6 118 yX3_order, Cond.instanceMethod yX3_order, Cond.selects RX3 yX3_order yX3_order, Cond.code yX3_order cX3_order 3 (some .int), Cond.methodLink RX1 216 yX7_copy, Cond.instanceMethod yX7_copy, Cond.selects RX7 yX7_copy yX7_copy, Cond.code yX7_copy cX7_copy 2 none, Cond.fieldLink RX7 18 "GainTrees$Split" "attribute" "I", Cond.fieldLink RX7 31 "GainTrees$Split" "values" "I", Cond.fieldLink RX7 34 "GainTrees$Split" "cut" "I"]
def wsX1_offer_r5 : List Cond := [Cond.fieldLink RX7 40 "GainTrees$Split" "total" "I", Cond.fieldLink RX7 43 "GainTrees$Split" "stands" "Z", Cond.fieldLink RX7 52 "GainTrees$Split" "weight" "J", Cond.methodLink RX7 62 arraycopyName, Cond.native arraycopyName, Cond.static arraycopyName, Cond.initialized "java/lang/System"]
def wsX1_offer : List Cond := .code yX1_offer cX1_offer 2 none :: ((wsX1_offer_r1 ++ (wsX1_offer_r2 ++ (wsX1_offer_r3 ++ (wsX1_offer_r4 ++ wsX1_offer_r5)))) ++ wsX10 ++ wsX70 ++ wsX60 ++ wsX30)
def wsX7_shift : List Cond := .code yX7_shift cX7_shift 2 none :: ([.fieldLink RX7 9 "GainTrees$Split" "sizes" "[I", .fieldLink RX7 15 "GainTrees$Split" "counts" "[I"] ++ wsX70)
def wsX1_tryCuts_r1 : List Cond := [Cond.fieldLink RX1 39 "GainTrees$Grower" "trial" "LGainTrees$Split;", Cond.fieldLink RX1 51 "GainTrees$Grower" "table" "LGainTrees$Table;", Cond.fieldLink RX1 9 "GainTrees$Grower" "rows" "[I", Cond.fieldLink RX1 73 "GainTrees$Grower" "used" "I", Cond.fieldLink RX1 18 "GainTrees$Grower" "sorted" "[I", Cond.fieldLink RX1 21 "GainTrees$Grower" "mark" "[I", Cond.fieldLink RX1 194 "GainTrees$Split" "sizes" "[I", Cond.fieldLink RX1 121 "GainTrees$Split" "cut" "I", Cond.methodLink RX1 180 yX7_open, Cond.instanceMethod yX7_open, Cond.selects RX7 yX7_open yX7_open, Cond.initialized RX7, Cond.code yX7_open cX7_open 5 none, Cond.fieldLink RX7 18 "GainTrees$Split" "attribute" "I", Cond.methodLink RX7 22 Lib.Math.max.name, Cond.static Lib.Math.max.name, Cond.initialized "java/lang/Math", Cond.code Lib.Math.max.name Lib.Math.max.code 2 (some .int), Cond.methodLink RX7 28 Lib.Math.min.name, Cond.static Lib.Math.min.name, Cond.code Lib.Math.min.name Lib.Math.min.code 2 (some .int), Cond.fieldLink RX7 31 "GainTrees$Split" "values" "I", Cond.fieldLink RX7 34 "GainTrees$Split" "cut" "I", Cond.fieldLink RX7 37 "GainTrees$Split" "children" "I"]
def wsX1_tryCuts_r2 : List Cond := [Cond.fieldLink RX7 40 "GainTrees$Split" "total" "I", Cond.fieldLink RX7 43 "GainTrees$Split" "stands" "Z", Cond.fieldLink RX7 9 "GainTrees$Split" "sizes" "[I", Cond.fieldLink RX7 15 "GainTrees$Split" "counts" "[I", Cond.methodLink RX1 150 yX8_classOf, Cond.instanceMethod yX8_classOf, Cond.selects RX8 yX8_classOf yX8_classOf, Cond.initialized RX8, Cond.code yX8_classOf cX8_classOf 2 (some .int), Cond.methodLink RX8 29 yX8_cell, Cond.instanceMethod yX8_cell, Cond.selects RX8 yX8_cell yX8_cell, Cond.code yX8_cell cX8_cell 3 (some .int), Cond.fieldLink RX8 15 "GainTrees$Table" "most" "I", Cond.fieldLink RX8 21 "GainTrees$Table" "cells" "[I", Cond.methodLink RX8 25 yX8_isColumn, Cond.static yX8_isColumn, Cond.code yX8_isColumn cX8_isColumn 1 (some .boolean), Cond.methodLink RX1 187 yX7_take, Cond.instanceMethod yX7_take, Cond.selects RX7 yX7_take yX7_take, Cond.code yX7_take cX7_take 3 none, Cond.methodLink RX1 147 yX8_cell, Cond.methodLink RX1 190 yX1_offer]
def wsX1_tryCuts_r3 : List Cond := [Cond.instanceMethod yX1_offer, Cond.selects RX1 yX1_offer yX1_offer, Cond.initialized RX1, Cond.code yX1_offer cX1_offer 2 none, Cond.fieldLink RX1 67 "GainTrees$Grower" "least" "I", Cond.fieldLink RX1 63 "GainTrees$Grower" "mode" "I", Cond.fieldLink RX1 47 "GainTrees$Grower" "scale" "LGainTrees$Scale;", Cond.fieldLink RX1 168 "GainTrees$Split" "stands" "Z", Cond.methodLink RX1 200 yX7_mayBe, Cond.instanceMethod yX7_mayBe, Cond.selects RX7 yX7_mayBe yX7_mayBe, Cond.code yX7_mayBe cX7_mayBe 4 (some .boolean), Cond.methodLink RX1 204 yX7_addSquares, Cond.instanceMethod yX7_addSquares, Cond.selects RX7 yX7_addSquares yX7_addSquares, Cond.code yX7_addSquares cX7_addSquares 7 none, Cond.fieldLink RX7 56 "GainTrees$Split" "squares" "J", Cond.fieldLink RX7 59 "GainTrees$Split" "divisor" "J", Cond.methodLink RX1 207 yX6_weigh, Cond.instanceMethod yX6_weigh, Cond.selects RX6 yX6_weigh yX6_weigh, Cond.initialized RX6, Cond.code yX6_weigh cX6_weigh 6 none, Cond.fieldLink RX6 40 "GainTrees$Split" "children" "I"]
def wsX1_tryCuts_r4 : List Cond := [Cond.fieldLink RX6 46 "GainTrees$Split" "sizes" "[I", Cond.fieldLink RX6 53 "GainTrees$Split" "counts" "[I", Cond.fieldLink RX6 56 "GainTrees$Split" "weight" "J", Cond.methodLink RX6 49 yX6_timesLog, Cond.instanceMethod yX6_timesLog, Cond.selects RX6 yX6_timesLog yX6_timesLog, Cond.code yX6_timesLog cX6_timesLog 2 (some .long), Cond.fieldLink RX6 9 "GainTrees$Scale" "logs" "[I", Cond.methodLink RX1 212 yX6_order, Cond.instanceMethod yX6_order, Cond.selects RX6 yX6_order yX6_order, Cond.code yX6_order cX6_order 6 (some .int), Cond.constantLong RX6 67 (2), Cond.fieldLink RX6 60 "GainTrees$Split" "total" "I", Cond.methodLink RX6 63 yX6_orderOfSquares, Cond.static yX6_orderOfSquares, Cond.code yX6_orderOfSquares cX6_orderOfSquares 19 (some .int), Cond.fieldLink RX6 97 "GainTrees$Split" "squares" "J", Cond.fieldLink RX6 100 "GainTrees$Split" "divisor" "J", Cond.methodLink RX6 91 yJ13_compare_74951, Cond.static yJ13_compare_74951, Cond.initialized RJ13, Cond.code yJ13_compare_74951 cJ13_compare_74951 4 (some .int), Cond.methodLink RX6 69 yX6_clearPowers]
def wsX1_tryCuts_r5 : List Cond := [Cond.instanceMethod yX6_clearPowers, Cond.selects RX6 yX6_clearPowers yX6_clearPowers, Cond.code yX6_clearPowers cX6_clearPowers 2 none, Cond.fieldLink RX6 18 "GainTrees$Scale" "power" "[I", Cond.methodLink RX6 72 yX6_addPowers, Cond.instanceMethod yX6_addPowers, Cond.selects RX6 yX6_addPowers yX6_addPowers, Cond.code yX6_addPowers cX6_addPowers 5 none, Cond.methodLink RX6 103 yX6_addPower, Cond.instanceMethod yX6_addPower, Cond.selects RX6 yX6_addPower yX6_addPower, Cond.code yX6_addPower cX6_addPower 3 none, Cond.methodLink RX6 76 yX6_sign, Cond.instanceMethod yX6_sign, Cond.selects RX6 yX6_sign yX6_sign, Cond.code yX6_sign cX6_sign 7 (some .int), Cond.methodLink RX6 107 Lib.Math.abs.name, Cond.static Lib.Math.abs.name, Cond.code Lib.Math.abs.name Lib.Math.abs.code 1 (some .int), Cond.fieldLink RX6 24 "GainTrees$Scale" "above" "LGainTrees$Product;", Cond.fieldLink RX6 28 "GainTrees$Scale" "below" "LGainTrees$Product;", Cond.fieldLink RX6 15 "GainTrees$Scale" "factor" "[I", Cond.methodLink RX6 112 yX3_begin, Cond.instanceMethod yX3_begin]
def wsX1_tryCuts_r6 : List Cond := [Cond.selects RX3 yX3_begin yX3_begin, Cond.initialized RX3, Cond.code yX3_begin cX3_begin 1 none, Cond.fieldLink RX3 9 "GainTrees$Product" "limbs" "[I", Cond.fieldLink RX3 13 "GainTrees$Product" "used" "I", Cond.methodLink RX6 115 yX3_raise, Cond.instanceMethod yX3_raise, Cond.selects RX3 yX3_raise yX3_raise, Cond.code yX3_raise cX3_raise 11 none, Cond.constantLong RX3 17 (4194304), Cond.constantLong RX3 19 (2147483647), Cond.methodLink RX6 118 yX3_order, Cond.instanceMethod yX3_order, Cond.selects RX3 yX3_order yX3_order, Cond.code yX3_order cX3_order 3 (some .int), Cond.methodLink RX1 216 yX7_copy, Cond.instanceMethod yX7_copy, Cond.selects RX7 yX7_copy yX7_copy, Cond.code yX7_copy cX7_copy 2 none, Cond.fieldLink RX7 52 "GainTrees$Split" "weight" "J", Cond.methodLink RX7 62 arraycopyName, Cond.native arraycopyName, Cond.static arraycopyName, Cond.initialized "java/lang/System"]
def wsX1_tryCuts_r7 : List Cond := [Cond.methodLink RX1 197 yX7_shift, Cond.instanceMethod yX7_shift, Cond.selects RX7 yX7_shift yX7_shift, Cond.code yX7_shift cX7_shift 2 none]
def wsX1_tryCuts : List Cond := .code yX1_tryCuts cX1_tryCuts 10 none :: ((wsX1_tryCuts_r1 ++ (wsX1_tryCuts_r2 ++ (wsX1_tryCuts_r3 ++ (wsX1_tryCuts_r4 ++ (wsX1_tryCuts_r5 ++ (wsX1_tryCuts_r6 ++ wsX1_tryCuts_r7)))))) ++ wsX10 ++ wsX70 ++ wsX80 ++ wsX60 ++ wsX30)
def wsX7_branch : List Cond := .code yX7_branch cX7_branch 4 (some .int) :: ([.fieldLink RX7 18 "GainTrees$Split" "attribute" "I", .fieldLink RX7 31 "GainTrees$Split" "values" "I", .fieldLink RX7 34 "GainTrees$Split" "cut" "I", .methodLink RX7 47 yX8_cell, .instanceMethod yX8_cell, .selects RX8 yX8_cell yX8_cell, .initialized RX8, .code yX8_cell cX8_cell 3 (some .int), .fieldLink RX8 15 "GainTrees$Table" "most" "I", .fieldLink RX8 21 "GainTrees$Table" "cells" "[I", .methodLink RX8 25 yX8_isColumn, .static yX8_isColumn, .code yX8_isColumn cX8_isColumn 1 (some .boolean)] ++ wsX70 ++ wsX80)
def wsX1_tryValues_r1 : List Cond := [Cond.fieldLink RX1 39 "GainTrees$Grower" "trial" "LGainTrees$Split;", Cond.fieldLink RX1 55 "GainTrees$Grower" "names" "LGainTrees$Names;", Cond.fieldLink RX1 51 "GainTrees$Grower" "table" "LGainTrees$Table;", Cond.fieldLink RX1 9 "GainTrees$Grower" "rows" "[I", Cond.methodLink RX1 139 yX2_valuesOf, Cond.instanceMethod yX2_valuesOf, Cond.selects RX2 yX2_valuesOf yX2_valuesOf, Cond.initialized RX2, Cond.code yX2_valuesOf cX2_valuesOf 2 (some .int), Cond.fieldLink RX2 26 "GainTrees$Names" "attributes" "I", Cond.fieldLink RX2 19 "GainTrees$Names" "values" "[I", Cond.methodLink RX1 180 yX7_open, Cond.instanceMethod yX7_open, Cond.selects RX7 yX7_open yX7_open, Cond.initialized RX7, Cond.code yX7_open cX7_open 5 none, Cond.fieldLink RX7 18 "GainTrees$Split" "attribute" "I", Cond.methodLink RX7 22 Lib.Math.max.name, Cond.static Lib.Math.max.name, Cond.initialized "java/lang/Math", Cond.code Lib.Math.max.name Lib.Math.max.code 2 (some .int), Cond.methodLink RX7 28 Lib.Math.min.name, Cond.static Lib.Math.min.name, Cond.code Lib.Math.min.name Lib.Math.min.code 2 (some .int)]
def wsX1_tryValues_r2 : List Cond := [Cond.fieldLink RX7 31 "GainTrees$Split" "values" "I", Cond.fieldLink RX7 34 "GainTrees$Split" "cut" "I", Cond.fieldLink RX7 37 "GainTrees$Split" "children" "I", Cond.fieldLink RX7 40 "GainTrees$Split" "total" "I", Cond.fieldLink RX7 43 "GainTrees$Split" "stands" "Z", Cond.fieldLink RX7 9 "GainTrees$Split" "sizes" "[I", Cond.fieldLink RX7 15 "GainTrees$Split" "counts" "[I", Cond.methodLink RX1 183 yX7_branch, Cond.instanceMethod yX7_branch, Cond.selects RX7 yX7_branch yX7_branch, Cond.code yX7_branch cX7_branch 4 (some .int), Cond.methodLink RX7 47 yX8_cell, Cond.instanceMethod yX8_cell, Cond.selects RX8 yX8_cell yX8_cell, Cond.initialized RX8, Cond.code yX8_cell cX8_cell 3 (some .int), Cond.fieldLink RX8 15 "GainTrees$Table" "most" "I", Cond.fieldLink RX8 21 "GainTrees$Table" "cells" "[I", Cond.methodLink RX8 25 yX8_isColumn, Cond.static yX8_isColumn, Cond.code yX8_isColumn cX8_isColumn 1 (some .boolean), Cond.methodLink RX1 150 yX8_classOf, Cond.instanceMethod yX8_classOf, Cond.selects RX8 yX8_classOf yX8_classOf]
def wsX1_tryValues_r3 : List Cond := [Cond.code yX8_classOf cX8_classOf 2 (some .int), Cond.methodLink RX8 29 yX8_cell, Cond.methodLink RX1 187 yX7_take, Cond.instanceMethod yX7_take, Cond.selects RX7 yX7_take yX7_take, Cond.code yX7_take cX7_take 3 none, Cond.methodLink RX1 190 yX1_offer, Cond.instanceMethod yX1_offer, Cond.selects RX1 yX1_offer yX1_offer, Cond.initialized RX1, Cond.code yX1_offer cX1_offer 2 none, Cond.fieldLink RX1 67 "GainTrees$Grower" "least" "I", Cond.fieldLink RX1 63 "GainTrees$Grower" "mode" "I", Cond.fieldLink RX1 47 "GainTrees$Grower" "scale" "LGainTrees$Scale;", Cond.fieldLink RX1 168 "GainTrees$Split" "stands" "Z", Cond.methodLink RX1 200 yX7_mayBe, Cond.instanceMethod yX7_mayBe, Cond.selects RX7 yX7_mayBe yX7_mayBe, Cond.code yX7_mayBe cX7_mayBe 4 (some .boolean), Cond.methodLink RX1 204 yX7_addSquares, Cond.instanceMethod yX7_addSquares, Cond.selects RX7 yX7_addSquares yX7_addSquares, Cond.code yX7_addSquares cX7_addSquares 7 none, Cond.fieldLink RX7 56 "GainTrees$Split" "squares" "J"]
def wsX1_tryValues_r4 : List Cond := [Cond.fieldLink RX7 59 "GainTrees$Split" "divisor" "J", Cond.methodLink RX1 207 yX6_weigh, Cond.instanceMethod yX6_weigh, Cond.selects RX6 yX6_weigh yX6_weigh, Cond.initialized RX6, Cond.code yX6_weigh cX6_weigh 6 none, Cond.fieldLink RX6 40 "GainTrees$Split" "children" "I", Cond.fieldLink RX6 46 "GainTrees$Split" "sizes" "[I", Cond.fieldLink RX6 53 "GainTrees$Split" "counts" "[I", Cond.fieldLink RX6 56 "GainTrees$Split" "weight" "J", Cond.methodLink RX6 49 yX6_timesLog, Cond.instanceMethod yX6_timesLog, Cond.selects RX6 yX6_timesLog yX6_timesLog, Cond.code yX6_timesLog cX6_timesLog 2 (some .long), Cond.fieldLink RX6 9 "GainTrees$Scale" "logs" "[I", Cond.methodLink RX1 212 yX6_order, Cond.instanceMethod yX6_order, Cond.selects RX6 yX6_order yX6_order, Cond.code yX6_order cX6_order 6 (some .int), Cond.constantLong RX6 67 (2), Cond.fieldLink RX6 60 "GainTrees$Split" "total" "I", Cond.methodLink RX6 63 yX6_orderOfSquares, Cond.static yX6_orderOfSquares, Cond.code yX6_orderOfSquares cX6_orderOfSquares 19 (some .int)]
def wsX1_tryValues_r5 : List Cond := [Cond.fieldLink RX6 97 "GainTrees$Split" "squares" "J", Cond.fieldLink RX6 100 "GainTrees$Split" "divisor" "J", Cond.methodLink RX6 91 yJ13_compare_74951, Cond.static yJ13_compare_74951, Cond.initialized RJ13, Cond.code yJ13_compare_74951 cJ13_compare_74951 4 (some .int), Cond.methodLink RX6 69 yX6_clearPowers, Cond.instanceMethod yX6_clearPowers, Cond.selects RX6 yX6_clearPowers yX6_clearPowers, Cond.code yX6_clearPowers cX6_clearPowers 2 none, Cond.fieldLink RX6 18 "GainTrees$Scale" "power" "[I", Cond.methodLink RX6 72 yX6_addPowers, Cond.instanceMethod yX6_addPowers, Cond.selects RX6 yX6_addPowers yX6_addPowers, Cond.code yX6_addPowers cX6_addPowers 5 none, Cond.methodLink RX6 103 yX6_addPower, Cond.instanceMethod yX6_addPower, Cond.selects RX6 yX6_addPower yX6_addPower, Cond.code yX6_addPower cX6_addPower 3 none, Cond.methodLink RX6 76 yX6_sign, Cond.instanceMethod yX6_sign, Cond.selects RX6 yX6_sign yX6_sign, Cond.code yX6_sign cX6_sign 7 (some .int), Cond.methodLink RX6 107 Lib.Math.abs.name]
def wsX1_tryValues_r6 : List Cond := [Cond.static Lib.Math.abs.name, Cond.code Lib.Math.abs.name Lib.Math.abs.code 1 (some .int), Cond.fieldLink RX6 24 "GainTrees$Scale" "above" "LGainTrees$Product;", Cond.fieldLink RX6 28 "GainTrees$Scale" "below" "LGainTrees$Product;", Cond.fieldLink RX6 15 "GainTrees$Scale" "factor" "[I", Cond.methodLink RX6 112 yX3_begin, Cond.instanceMethod yX3_begin, Cond.selects RX3 yX3_begin yX3_begin, Cond.initialized RX3, Cond.code yX3_begin cX3_begin 1 none, Cond.fieldLink RX3 9 "GainTrees$Product" "limbs" "[I", Cond.fieldLink RX3 13 "GainTrees$Product" "used" "I", Cond.methodLink RX6 115 yX3_raise, Cond.instanceMethod yX3_raise, Cond.selects RX3 yX3_raise yX3_raise, Cond.code yX3_raise cX3_raise 11 none, Cond.constantLong RX3 17 (4194304), Cond.constantLong RX3 19 (2147483647), Cond.methodLink RX6 118 yX3_order, Cond.instanceMethod yX3_order, Cond.selects RX3 yX3_order yX3_order, Cond.code yX3_order cX3_order 3 (some .int), Cond.methodLink RX1 216 yX7_copy, Cond.instanceMethod yX7_copy]
def wsX1_tryValues_r7 : List Cond := [Cond.selects RX7 yX7_copy yX7_copy, Cond.code yX7_copy cX7_copy 2 none, Cond.fieldLink RX7 52 "GainTrees$Split" "weight" "J", Cond.methodLink RX7 62 arraycopyName, Cond.native arraycopyName, Cond.static arraycopyName, Cond.initialized "java/lang/System"]
def wsX1_tryValues : List Cond := .code yX1_tryValues cX1_tryValues 6 none :: ((wsX1_tryValues_r1 ++ (wsX1_tryValues_r2 ++ (wsX1_tryValues_r3 ++ (wsX1_tryValues_r4 ++ (wsX1_tryValues_r5 ++ (wsX1_tryValues_r6 ++ wsX1_tryValues_r7)))))) ++ wsX10 ++ wsX20 ++ wsX70 ++ wsX80 ++ wsX60 ++ wsX30)
def wsX1_findSplits_r1 : List Cond := [Cond.fieldLink RX1 43 "GainTrees$Grower" "best" "[LGainTrees$Split;", Cond.fieldLink RX1 168 "GainTrees$Split" "stands" "Z", Cond.fieldLink RX1 55 "GainTrees$Grower" "names" "LGainTrees$Names;", Cond.methodLink RX1 139 yX2_valuesOf, Cond.instanceMethod yX2_valuesOf, Cond.selects RX2 yX2_valuesOf yX2_valuesOf, Cond.initialized RX2, Cond.code yX2_valuesOf cX2_valuesOf 2 (some .int), Cond.fieldLink RX2 26 "GainTrees$Names" "attributes" "I", Cond.fieldLink RX2 19 "GainTrees$Names" "values" "[I", Cond.methodLink RX1 172 yX1_tryCuts, Cond.instanceMethod yX1_tryCuts, Cond.selects RX1 yX1_tryCuts yX1_tryCuts, Cond.initialized RX1, Cond.code yX1_tryCuts cX1_tryCuts 10 none, Cond.fieldLink RX1 39 "GainTrees$Grower" "trial" "LGainTrees$Split;", Cond.fieldLink RX1 51 "GainTrees$Grower" "table" "LGainTrees$Table;", Cond.fieldLink RX1 9 "GainTrees$Grower" "rows" "[I", Cond.fieldLink RX1 73 "GainTrees$Grower" "used" "I", Cond.fieldLink RX1 18 "GainTrees$Grower" "sorted" "[I", Cond.fieldLink RX1 21 "GainTrees$Grower" "mark" "[I", Cond.fieldLink RX1 194 "GainTrees$Split" "sizes" "[I", Cond.fieldLink RX1 121 "GainTrees$Split" "cut" "I", Cond.methodLink RX1 180 yX7_open]
def wsX1_findSplits_r2 : List Cond := [Cond.instanceMethod yX7_open, Cond.selects RX7 yX7_open yX7_open, Cond.initialized RX7, Cond.code yX7_open cX7_open 5 none, Cond.fieldLink RX7 18 "GainTrees$Split" "attribute" "I", Cond.methodLink RX7 22 Lib.Math.max.name, Cond.static Lib.Math.max.name, Cond.initialized "java/lang/Math", Cond.code Lib.Math.max.name Lib.Math.max.code 2 (some .int), Cond.methodLink RX7 28 Lib.Math.min.name, Cond.static Lib.Math.min.name, Cond.code Lib.Math.min.name Lib.Math.min.code 2 (some .int), Cond.fieldLink RX7 31 "GainTrees$Split" "values" "I", Cond.fieldLink RX7 34 "GainTrees$Split" "cut" "I", Cond.fieldLink RX7 37 "GainTrees$Split" "children" "I", Cond.fieldLink RX7 40 "GainTrees$Split" "total" "I", Cond.fieldLink RX7 43 "GainTrees$Split" "stands" "Z", Cond.fieldLink RX7 9 "GainTrees$Split" "sizes" "[I", Cond.fieldLink RX7 15 "GainTrees$Split" "counts" "[I", Cond.methodLink RX1 150 yX8_classOf, Cond.instanceMethod yX8_classOf, Cond.selects RX8 yX8_classOf yX8_classOf, Cond.initialized RX8, Cond.code yX8_classOf cX8_classOf 2 (some .int)]
def wsX1_findSplits_r3 : List Cond := [Cond.methodLink RX8 29 yX8_cell, Cond.instanceMethod yX8_cell, Cond.selects RX8 yX8_cell yX8_cell, Cond.code yX8_cell cX8_cell 3 (some .int), Cond.fieldLink RX8 15 "GainTrees$Table" "most" "I", Cond.fieldLink RX8 21 "GainTrees$Table" "cells" "[I", Cond.methodLink RX8 25 yX8_isColumn, Cond.static yX8_isColumn, Cond.code yX8_isColumn cX8_isColumn 1 (some .boolean), Cond.methodLink RX1 187 yX7_take, Cond.instanceMethod yX7_take, Cond.selects RX7 yX7_take yX7_take, Cond.code yX7_take cX7_take 3 none, Cond.methodLink RX1 147 yX8_cell, Cond.methodLink RX1 190 yX1_offer, Cond.instanceMethod yX1_offer, Cond.selects RX1 yX1_offer yX1_offer, Cond.code yX1_offer cX1_offer 2 none, Cond.fieldLink RX1 67 "GainTrees$Grower" "least" "I", Cond.fieldLink RX1 63 "GainTrees$Grower" "mode" "I", Cond.fieldLink RX1 47 "GainTrees$Grower" "scale" "LGainTrees$Scale;", Cond.methodLink RX1 200 yX7_mayBe, Cond.instanceMethod yX7_mayBe, Cond.selects RX7 yX7_mayBe yX7_mayBe]
def wsX1_findSplits_r4 : List Cond := [Cond.code yX7_mayBe cX7_mayBe 4 (some .boolean), Cond.methodLink RX1 204 yX7_addSquares, Cond.instanceMethod yX7_addSquares, Cond.selects RX7 yX7_addSquares yX7_addSquares, Cond.code yX7_addSquares cX7_addSquares 7 none, Cond.fieldLink RX7 56 "GainTrees$Split" "squares" "J", Cond.fieldLink RX7 59 "GainTrees$Split" "divisor" "J", Cond.methodLink RX1 207 yX6_weigh, Cond.instanceMethod yX6_weigh, Cond.selects RX6 yX6_weigh yX6_weigh, Cond.initialized RX6, Cond.code yX6_weigh cX6_weigh 6 none, Cond.fieldLink RX6 40 "GainTrees$Split" "children" "I", Cond.fieldLink RX6 46 "GainTrees$Split" "sizes" "[I", Cond.fieldLink RX6 53 "GainTrees$Split" "counts" "[I", Cond.fieldLink RX6 56 "GainTrees$Split" "weight" "J", Cond.methodLink RX6 49 yX6_timesLog, Cond.instanceMethod yX6_timesLog, Cond.selects RX6 yX6_timesLog yX6_timesLog, Cond.code yX6_timesLog cX6_timesLog 2 (some .long), Cond.fieldLink RX6 9 "GainTrees$Scale" "logs" "[I", Cond.methodLink RX1 212 yX6_order, Cond.instanceMethod yX6_order, Cond.selects RX6 yX6_order yX6_order]
def wsX1_findSplits_r5 : List Cond := [Cond.code yX6_order cX6_order 6 (some .int), Cond.constantLong RX6 67 (2), Cond.fieldLink RX6 60 "GainTrees$Split" "total" "I", Cond.methodLink RX6 63 yX6_orderOfSquares, Cond.static yX6_orderOfSquares, Cond.code yX6_orderOfSquares cX6_orderOfSquares 19 (some .int), Cond.fieldLink RX6 97 "GainTrees$Split" "squares" "J", Cond.fieldLink RX6 100 "GainTrees$Split" "divisor" "J", Cond.methodLink RX6 91 yJ13_compare_74951, Cond.static yJ13_compare_74951, Cond.initialized RJ13, Cond.code yJ13_compare_74951 cJ13_compare_74951 4 (some .int), Cond.methodLink RX6 69 yX6_clearPowers, Cond.instanceMethod yX6_clearPowers, Cond.selects RX6 yX6_clearPowers yX6_clearPowers, Cond.code yX6_clearPowers cX6_clearPowers 2 none, Cond.fieldLink RX6 18 "GainTrees$Scale" "power" "[I", Cond.methodLink RX6 72 yX6_addPowers, Cond.instanceMethod yX6_addPowers, Cond.selects RX6 yX6_addPowers yX6_addPowers, Cond.code yX6_addPowers cX6_addPowers 5 none, Cond.methodLink RX6 103 yX6_addPower, Cond.instanceMethod yX6_addPower, Cond.selects RX6 yX6_addPower yX6_addPower]
def wsX1_findSplits_r6 : List Cond := [Cond.code yX6_addPower cX6_addPower 3 none, Cond.methodLink RX6 76 yX6_sign, Cond.instanceMethod yX6_sign, Cond.selects RX6 yX6_sign yX6_sign, Cond.code yX6_sign cX6_sign 7 (some .int), Cond.methodLink RX6 107 Lib.Math.abs.name, Cond.static Lib.Math.abs.name, Cond.code Lib.Math.abs.name Lib.Math.abs.code 1 (some .int), Cond.fieldLink RX6 24 "GainTrees$Scale" "above" "LGainTrees$Product;", Cond.fieldLink RX6 28 "GainTrees$Scale" "below" "LGainTrees$Product;", Cond.fieldLink RX6 15 "GainTrees$Scale" "factor" "[I", Cond.methodLink RX6 112 yX3_begin, Cond.instanceMethod yX3_begin, Cond.selects RX3 yX3_begin yX3_begin, Cond.initialized RX3, Cond.code yX3_begin cX3_begin 1 none, Cond.fieldLink RX3 9 "GainTrees$Product" "limbs" "[I", Cond.fieldLink RX3 13 "GainTrees$Product" "used" "I", Cond.methodLink RX6 115 yX3_raise, Cond.instanceMethod yX3_raise, Cond.selects RX3 yX3_raise yX3_raise, Cond.code yX3_raise cX3_raise 11 none, Cond.constantLong RX3 17 (4194304), Cond.constantLong RX3 19 (2147483647)]
def wsX1_findSplits_r7 : List Cond := [Cond.methodLink RX6 118 yX3_order, Cond.instanceMethod yX3_order, Cond.selects RX3 yX3_order yX3_order, Cond.code yX3_order cX3_order 3 (some .int), Cond.methodLink RX1 216 yX7_copy, Cond.instanceMethod yX7_copy, Cond.selects RX7 yX7_copy yX7_copy, Cond.code yX7_copy cX7_copy 2 none, Cond.fieldLink RX7 52 "GainTrees$Split" "weight" "J", Cond.methodLink RX7 62 arraycopyName, Cond.native arraycopyName, Cond.static arraycopyName, Cond.initialized "java/lang/System", Cond.methodLink RX1 197 yX7_shift, Cond.instanceMethod yX7_shift, Cond.selects RX7 yX7_shift yX7_shift, Cond.code yX7_shift cX7_shift 2 none, Cond.methodLink RX1 176 yX1_tryValues, Cond.instanceMethod yX1_tryValues, Cond.selects RX1 yX1_tryValues yX1_tryValues, Cond.code yX1_tryValues cX1_tryValues 6 none, Cond.methodLink RX1 183 yX7_branch, Cond.instanceMethod yX7_branch, Cond.selects RX7 yX7_branch yX7_branch]
def wsX1_findSplits_r8 : List Cond := [Cond.code yX7_branch cX7_branch 4 (some .int), Cond.methodLink RX7 47 yX8_cell]
def wsX1_findSplits : List Cond := .code yX1_findSplits cX1_findSplits 6 none :: ((wsX1_findSplits_r1 ++ (wsX1_findSplits_r2 ++ (wsX1_findSplits_r3 ++ (wsX1_findSplits_r4 ++ (wsX1_findSplits_r5 ++ (wsX1_findSplits_r6 ++ (wsX1_findSplits_r7 ++ wsX1_findSplits_r8))))))) ++ wsX10 ++ wsX70 ++ wsX20 ++ wsX80 ++ wsX60 ++ wsX30)
def wsX6_isUpToMean_r1 : List Cond := [Cond.fieldLink RX6 80 "GainTrees$Split" "stands" "Z", Cond.methodLink RX6 69 yX6_clearPowers, Cond.instanceMethod yX6_clearPowers, Cond.selects RX6 yX6_clearPowers yX6_clearPowers, Cond.initialized RX6, Cond.code yX6_clearPowers cX6_clearPowers 2 none, Cond.fieldLink RX6 18 "GainTrees$Scale" "power" "[I", Cond.methodLink RX6 72 yX6_addPowers, Cond.instanceMethod yX6_addPowers, Cond.selects RX6 yX6_addPowers yX6_addPowers, Cond.code yX6_addPowers cX6_addPowers 5 none, Cond.fieldLink RX6 40 "GainTrees$Split" "children" "I", Cond.fieldLink RX6 46 "GainTrees$Split" "sizes" "[I", Cond.fieldLink RX6 53 "GainTrees$Split" "counts" "[I", Cond.methodLink RX6 103 yX6_addPower, Cond.instanceMethod yX6_addPower, Cond.selects RX6 yX6_addPower yX6_addPower, Cond.code yX6_addPower cX6_addPower 3 none, Cond.methodLink RX6 76 yX6_sign, Cond.instanceMethod yX6_sign, Cond.selects RX6 yX6_sign yX6_sign, Cond.code yX6_sign cX6_sign 7 (some .int), Cond.fieldLink RX6 9 "GainTrees$Scale" "logs" "[I", Cond.constantLong RX6 67 (2)]
def wsX6_isUpToMean_r2 : List Cond := [Cond.methodLink RX6 107 Lib.Math.abs.name, Cond.static Lib.Math.abs.name, Cond.initialized "java/lang/Math", Cond.code Lib.Math.abs.name Lib.Math.abs.code 1 (some .int), Cond.fieldLink RX6 24 "GainTrees$Scale" "above" "LGainTrees$Product;", Cond.fieldLink RX6 28 "GainTrees$Scale" "below" "LGainTrees$Product;", Cond.fieldLink RX6 15 "GainTrees$Scale" "factor" "[I", Cond.methodLink RX6 112 yX3_begin, Cond.instanceMethod yX3_begin, Cond.selects RX3 yX3_begin yX3_begin, Cond.initialized RX3, Cond.code yX3_begin cX3_begin 1 none, Cond.fieldLink RX3 9 "GainTrees$Product" "limbs" "[I", Cond.fieldLink RX3 13 "GainTrees$Product" "used" "I", Cond.methodLink RX6 115 yX3_raise, Cond.instanceMethod yX3_raise, Cond.selects RX3 yX3_raise yX3_raise, Cond.code yX3_raise cX3_raise 11 none, Cond.constantLong RX3 17 (4194304), Cond.constantLong RX3 19 (2147483647), Cond.methodLink RX6 118 yX3_order, Cond.instanceMethod yX3_order, Cond.selects RX3 yX3_order yX3_order, Cond.code yX3_order cX3_order 3 (some .int)]
def wsX6_isUpToMean : List Cond := .code yX6_isUpToMean cX6_isUpToMean 6 (some .boolean) :: ((wsX6_isUpToMean_r1 ++ wsX6_isUpToMean_r2) ++ wsX70 ++ wsX60 ++ wsX30)
def wsX6_gainOf : List Cond := .code yX6_gainOf cX6_gainOf 7 (some .long) :: ([.fieldLink RX6 60 "GainTrees$Split" "total" "I", .fieldLink RX6 40 "GainTrees$Split" "children" "I", .fieldLink RX6 53 "GainTrees$Split" "counts" "[I", .fieldLink RX6 56 "GainTrees$Split" "weight" "J", .methodLink RX6 49 yX6_timesLog, .instanceMethod yX6_timesLog, .selects RX6 yX6_timesLog yX6_timesLog, .initialized RX6, .code yX6_timesLog cX6_timesLog 2 (some .long), .fieldLink RX6 9 "GainTrees$Scale" "logs" "[I"] ++ wsX70 ++ wsX60)
def wsX6_widthOf : List Cond := .code yX6_widthOf cX6_widthOf 5 (some .long) :: ([.fieldLink RX6 60 "GainTrees$Split" "total" "I", .fieldLink RX6 40 "GainTrees$Split" "children" "I", .fieldLink RX6 46 "GainTrees$Split" "sizes" "[I", .methodLink RX6 49 yX6_timesLog, .instanceMethod yX6_timesLog, .selects RX6 yX6_timesLog yX6_timesLog, .initialized RX6, .code yX6_timesLog cX6_timesLog 2 (some .long), .fieldLink RX6 9 "GainTrees$Scale" "logs" "[I"] ++ wsX70 ++ wsX60)
def wsX6_orderOfRatios : List Cond := .code yX6_orderOfRatios cX6_orderOfRatios 3 (some .int) :: ([.methodLink RX6 84 yX6_gainOf, .instanceMethod yX6_gainOf, .selects RX6 yX6_gainOf yX6_gainOf, .initialized RX6, .code yX6_gainOf cX6_gainOf 7 (some .long), .fieldLink RX6 60 "GainTrees$Split" "total" "I", .fieldLink RX6 40 "GainTrees$Split" "children" "I", .fieldLink RX6 53 "GainTrees$Split" "counts" "[I", .fieldLink RX6 56 "GainTrees$Split" "weight" "J", .methodLink RX6 49 yX6_timesLog, .instanceMethod yX6_timesLog, .selects RX6 yX6_timesLog yX6_timesLog, .code yX6_timesLog cX6_timesLog 2 (some .long), .fieldLink RX6 9 "GainTrees$Scale" "logs" "[I", .methodLink RX6 88 yX6_widthOf, .instanceMethod yX6_widthOf, .selects RX6 yX6_widthOf yX6_widthOf, .code yX6_widthOf cX6_widthOf 5 (some .long), .fieldLink RX6 46 "GainTrees$Split" "sizes" "[I", .methodLink RX6 91 yJ13_compare_74951, .static yJ13_compare_74951, .initialized RJ13, .code yJ13_compare_74951 cJ13_compare_74951 4 (some .int)] ++ wsX70 ++ wsX60)
def wsX1_chooseByRatio_r1 : List Cond := [Cond.fieldLink RX1 43 "GainTrees$Grower" "best" "[LGainTrees$Split;", Cond.fieldLink RX1 168 "GainTrees$Split" "stands" "Z", Cond.fieldLink RX1 47 "GainTrees$Grower" "scale" "LGainTrees$Scale;", Cond.methodLink RX1 219 yX6_isUpToMean, Cond.instanceMethod yX6_isUpToMean, Cond.selects RX6 yX6_isUpToMean yX6_isUpToMean, Cond.initialized RX6, Cond.code yX6_isUpToMean cX6_isUpToMean 6 (some .boolean), Cond.fieldLink RX6 80 "GainTrees$Split" "stands" "Z", Cond.methodLink RX6 69 yX6_clearPowers, Cond.instanceMethod yX6_clearPowers, Cond.selects RX6 yX6_clearPowers yX6_clearPowers, Cond.code yX6_clearPowers cX6_clearPowers 2 none, Cond.fieldLink RX6 18 "GainTrees$Scale" "power" "[I", Cond.methodLink RX6 72 yX6_addPowers, Cond.instanceMethod yX6_addPowers, Cond.selects RX6 yX6_addPowers yX6_addPowers, Cond.code yX6_addPowers cX6_addPowers 5 none, Cond.fieldLink RX6 40 "GainTrees$Split" "children" "I", Cond.fieldLink RX6 46 "GainTrees$Split" "sizes" "[I", Cond.fieldLink RX6 53 "GainTrees$Split" "counts" "[I", Cond.methodLink RX6 103 yX6_addPower, Cond.instanceMethod yX6_addPower, Cond.selects RX6 yX6_addPower yX6_addPower]
def wsX1_chooseByRatio_r2 : List Cond := [Cond.code yX6_addPower cX6_addPower 3 none, Cond.methodLink RX6 76 yX6_sign, Cond.instanceMethod yX6_sign, Cond.selects RX6 yX6_sign yX6_sign, Cond.code yX6_sign cX6_sign 7 (some .int), Cond.fieldLink RX6 9 "GainTrees$Scale" "logs" "[I", Cond.constantLong RX6 67 (2), Cond.methodLink RX6 107 Lib.Math.abs.name, Cond.static Lib.Math.abs.name, Cond.initialized "java/lang/Math", Cond.code Lib.Math.abs.name Lib.Math.abs.code 1 (some .int), Cond.fieldLink RX6 24 "GainTrees$Scale" "above" "LGainTrees$Product;", Cond.fieldLink RX6 28 "GainTrees$Scale" "below" "LGainTrees$Product;", Cond.fieldLink RX6 15 "GainTrees$Scale" "factor" "[I", Cond.methodLink RX6 112 yX3_begin, Cond.instanceMethod yX3_begin, Cond.selects RX3 yX3_begin yX3_begin, Cond.initialized RX3, Cond.code yX3_begin cX3_begin 1 none, Cond.fieldLink RX3 9 "GainTrees$Product" "limbs" "[I", Cond.fieldLink RX3 13 "GainTrees$Product" "used" "I", Cond.methodLink RX6 115 yX3_raise, Cond.instanceMethod yX3_raise, Cond.selects RX3 yX3_raise yX3_raise]
def wsX1_chooseByRatio_r3 : List Cond := [Cond.code yX3_raise cX3_raise 11 none, Cond.constantLong RX3 17 (4194304), Cond.constantLong RX3 19 (2147483647), Cond.methodLink RX6 118 yX3_order, Cond.instanceMethod yX3_order, Cond.selects RX3 yX3_order yX3_order, Cond.code yX3_order cX3_order 3 (some .int), Cond.methodLink RX1 223 yX6_orderOfRatios, Cond.instanceMethod yX6_orderOfRatios, Cond.selects RX6 yX6_orderOfRatios yX6_orderOfRatios, Cond.code yX6_orderOfRatios cX6_orderOfRatios 3 (some .int), Cond.methodLink RX6 84 yX6_gainOf, Cond.instanceMethod yX6_gainOf, Cond.selects RX6 yX6_gainOf yX6_gainOf, Cond.code yX6_gainOf cX6_gainOf 7 (some .long), Cond.fieldLink RX6 60 "GainTrees$Split" "total" "I", Cond.fieldLink RX6 56 "GainTrees$Split" "weight" "J", Cond.methodLink RX6 49 yX6_timesLog, Cond.instanceMethod yX6_timesLog, Cond.selects RX6 yX6_timesLog yX6_timesLog, Cond.code yX6_timesLog cX6_timesLog 2 (some .long), Cond.methodLink RX6 88 yX6_widthOf, Cond.instanceMethod yX6_widthOf, Cond.selects RX6 yX6_widthOf yX6_widthOf]
def wsX1_chooseByRatio_r4 : List Cond := [Cond.code yX6_widthOf cX6_widthOf 5 (some .long), Cond.methodLink RX6 91 yJ13_compare_74951, Cond.static yJ13_compare_74951, Cond.initialized RJ13, Cond.code yJ13_compare_74951 cJ13_compare_74951 4 (some .int)]
def wsX1_chooseByRatio : List Cond := .code yX1_chooseByRatio cX1_chooseByRatio 4 (some (.object "GainTrees$Split")) :: ((wsX1_chooseByRatio_r1 ++ (wsX1_chooseByRatio_r2 ++ (wsX1_chooseByRatio_r3 ++ wsX1_chooseByRatio_r4))) ++ wsX10 ++ wsX70 ++ wsX60 ++ wsX30)
def wsX1_chooseBest_r1 : List Cond := [Cond.fieldLink RX1 43 "GainTrees$Grower" "best" "[LGainTrees$Split;", Cond.fieldLink RX1 168 "GainTrees$Split" "stands" "Z", Cond.fieldLink RX1 47 "GainTrees$Grower" "scale" "LGainTrees$Scale;", Cond.fieldLink RX1 63 "GainTrees$Grower" "mode" "I", Cond.methodLink RX1 212 yX6_order, Cond.instanceMethod yX6_order, Cond.selects RX6 yX6_order yX6_order, Cond.initialized RX6, Cond.code yX6_order cX6_order 6 (some .int), Cond.constantLong RX6 67 (2), Cond.fieldLink RX6 60 "GainTrees$Split" "total" "I", Cond.fieldLink RX6 56 "GainTrees$Split" "weight" "J", Cond.methodLink RX6 63 yX6_orderOfSquares, Cond.static yX6_orderOfSquares, Cond.code yX6_orderOfSquares cX6_orderOfSquares 19 (some .int), Cond.fieldLink RX6 97 "GainTrees$Split" "squares" "J", Cond.fieldLink RX6 100 "GainTrees$Split" "divisor" "J", Cond.methodLink RX6 91 yJ13_compare_74951, Cond.static yJ13_compare_74951, Cond.initialized RJ13, Cond.code yJ13_compare_74951 cJ13_compare_74951 4 (some .int), Cond.methodLink RX6 69 yX6_clearPowers, Cond.instanceMethod yX6_clearPowers, Cond.selects RX6 yX6_clearPowers yX6_clearPowers]
def wsX1_chooseBest_r2 : List Cond := [Cond.code yX6_clearPowers cX6_clearPowers 2 none, Cond.fieldLink RX6 18 "GainTrees$Scale" "power" "[I", Cond.methodLink RX6 72 yX6_addPowers, Cond.instanceMethod yX6_addPowers, Cond.selects RX6 yX6_addPowers yX6_addPowers, Cond.code yX6_addPowers cX6_addPowers 5 none, Cond.fieldLink RX6 40 "GainTrees$Split" "children" "I", Cond.fieldLink RX6 46 "GainTrees$Split" "sizes" "[I", Cond.fieldLink RX6 53 "GainTrees$Split" "counts" "[I", Cond.methodLink RX6 103 yX6_addPower, Cond.instanceMethod yX6_addPower, Cond.selects RX6 yX6_addPower yX6_addPower, Cond.code yX6_addPower cX6_addPower 3 none, Cond.methodLink RX6 76 yX6_sign, Cond.instanceMethod yX6_sign, Cond.selects RX6 yX6_sign yX6_sign, Cond.code yX6_sign cX6_sign 7 (some .int), Cond.fieldLink RX6 9 "GainTrees$Scale" "logs" "[I", Cond.methodLink RX6 107 Lib.Math.abs.name, Cond.static Lib.Math.abs.name, Cond.initialized "java/lang/Math", Cond.code Lib.Math.abs.name Lib.Math.abs.code 1 (some .int), Cond.fieldLink RX6 24 "GainTrees$Scale" "above" "LGainTrees$Product;", Cond.fieldLink RX6 28 "GainTrees$Scale" "below" "LGainTrees$Product;"]
def wsX1_chooseBest_r3 : List Cond := [Cond.fieldLink RX6 15 "GainTrees$Scale" "factor" "[I", Cond.methodLink RX6 112 yX3_begin, Cond.instanceMethod yX3_begin, Cond.selects RX3 yX3_begin yX3_begin, Cond.initialized RX3, Cond.code yX3_begin cX3_begin 1 none, Cond.fieldLink RX3 9 "GainTrees$Product" "limbs" "[I", Cond.fieldLink RX3 13 "GainTrees$Product" "used" "I", Cond.methodLink RX6 115 yX3_raise, Cond.instanceMethod yX3_raise, Cond.selects RX3 yX3_raise yX3_raise, Cond.code yX3_raise cX3_raise 11 none, Cond.constantLong RX3 17 (4194304), Cond.constantLong RX3 19 (2147483647), Cond.methodLink RX6 118 yX3_order, Cond.instanceMethod yX3_order, Cond.selects RX3 yX3_order yX3_order, Cond.code yX3_order cX3_order 3 (some .int)]
def wsX1_chooseBest : List Cond := .code yX1_chooseBest cX1_chooseBest 4 (some (.object "GainTrees$Split")) :: ((wsX1_chooseBest_r1 ++ (wsX1_chooseBest_r2 ++ wsX1_chooseBest_r3)) ++ wsX10 ++ wsX70 ++ wsX60 ++ wsX30)
def wsX9_fork : List Cond := .code yX9_fork cX9_fork 5 none :: ([.fieldLink RX9 52 "GainTrees$Tree" "nodes" "I", .fieldLink RX9 9 "GainTrees$Tree" "attribute" "[I", .fieldLink RX9 18 "GainTrees$Tree" "byCut" "[Z", .fieldLink RX9 15 "GainTrees$Tree" "cut" "[I", .fieldLink RX9 28 "GainTrees$Tree" "kids" "[I"] ++ wsX90)
def wsX1_part_r1 : List Cond := [Cond.fieldLink RX1 227 "GainTrees$Split" "children" "I", Cond.fieldLink RX1 51 "GainTrees$Grower" "table" "LGainTrees$Table;", Cond.fieldLink RX1 9 "GainTrees$Grower" "rows" "[I", Cond.fieldLink RX1 15 "GainTrees$Grower" "parted" "[I", Cond.fieldLink RX1 194 "GainTrees$Split" "sizes" "[I", Cond.methodLink RX1 183 yX7_branch, Cond.instanceMethod yX7_branch, Cond.selects RX7 yX7_branch yX7_branch, Cond.initialized RX7, Cond.code yX7_branch cX7_branch 4 (some .int), Cond.fieldLink RX7 18 "GainTrees$Split" "attribute" "I", Cond.fieldLink RX7 31 "GainTrees$Split" "values" "I", Cond.fieldLink RX7 34 "GainTrees$Split" "cut" "I", Cond.methodLink RX7 47 yX8_cell, Cond.instanceMethod yX8_cell, Cond.selects RX8 yX8_cell yX8_cell, Cond.initialized RX8, Cond.code yX8_cell cX8_cell 3 (some .int), Cond.fieldLink RX8 15 "GainTrees$Table" "most" "I", Cond.fieldLink RX8 21 "GainTrees$Table" "cells" "[I", Cond.methodLink RX8 25 yX8_isColumn, Cond.static yX8_isColumn, Cond.code yX8_isColumn cX8_isColumn 1 (some .boolean), Cond.methodLink RX1 92 yX1_push]
def wsX1_part_r2 : List Cond := [Cond.instanceMethod yX1_push, Cond.selects RX1 yX1_push yX1_push, Cond.initialized RX1, Cond.code yX1_push cX1_push 5 none, Cond.fieldLink RX1 89 "GainTrees$Grower" "waiting" "I", Cond.fieldLink RX1 24 "GainTrees$Grower" "parents" "[I", Cond.fieldLink RX1 27 "GainTrees$Grower" "places" "[I", Cond.fieldLink RX1 30 "GainTrees$Grower" "starts" "[I", Cond.fieldLink RX1 33 "GainTrees$Grower" "stops" "[I"]
def wsX1_part : List Cond := .code yX1_part cX1_part 8 none :: ((wsX1_part_r1 ++ wsX1_part_r2) ++ wsX70 ++ wsX10 ++ wsX80)
def wsX9_finish : List Cond := .code yX9_finish cX9_finish 4 none :: ([.fieldLink RX9 52 "GainTrees$Tree" "nodes" "I", .fieldLink RX9 28 "GainTrees$Tree" "kids" "[I", .fieldLink RX9 43 "GainTrees$Tree" "after" "[I"] ++ wsX90)
def wsX1_build_r1 : List Cond := [Cond.fieldLink RX1 55 "GainTrees$Grower" "names" "LGainTrees$Names;", Cond.fieldLink RX1 59 "GainTrees$Grower" "tree" "LGainTrees$Tree;", Cond.fieldLink RX1 89 "GainTrees$Grower" "waiting" "I", Cond.fieldLink RX1 73 "GainTrees$Grower" "used" "I", Cond.fieldLink RX1 30 "GainTrees$Grower" "starts" "[I", Cond.fieldLink RX1 33 "GainTrees$Grower" "stops" "[I", Cond.fieldLink RX1 24 "GainTrees$Grower" "parents" "[I", Cond.fieldLink RX1 27 "GainTrees$Grower" "places" "[I", Cond.fieldLink RX1 63 "GainTrees$Grower" "mode" "I", Cond.fieldLink RX1 115 "GainTrees$Split" "attribute" "I", Cond.fieldLink RX1 118 "GainTrees$Split" "values" "I", Cond.fieldLink RX1 121 "GainTrees$Split" "cut" "I", Cond.methodLink RX1 81 yX9_wipe, Cond.instanceMethod yX9_wipe, Cond.selects RX9 yX9_wipe yX9_wipe, Cond.initialized RX9, Cond.code yX9_wipe cX9_wipe 1 none, Cond.fieldLink RX9 52 "GainTrees$Tree" "nodes" "I", Cond.methodLink RX1 86 yX1_sortRows, Cond.instanceMethod yX1_sortRows, Cond.selects RX1 yX1_sortRows yX1_sortRows, Cond.initialized RX1, Cond.code yX1_sortRows cX1_sortRows 2 none, Cond.fieldLink RX1 134 "GainTrees$Names" "attributes" "I"]
def wsX1_build_r2 : List Cond := [Cond.methodLink RX1 139 yX2_valuesOf, Cond.instanceMethod yX2_valuesOf, Cond.selects RX2 yX2_valuesOf yX2_valuesOf, Cond.initialized RX2, Cond.code yX2_valuesOf cX2_valuesOf 2 (some .int), Cond.fieldLink RX2 26 "GainTrees$Names" "attributes" "I", Cond.fieldLink RX2 19 "GainTrees$Names" "values" "[I", Cond.methodLink RX1 143 yX1_sortBy, Cond.instanceMethod yX1_sortBy, Cond.selects RX1 yX1_sortBy yX1_sortBy, Cond.code yX1_sortBy cX1_sortBy 7 none, Cond.fieldLink RX1 9 "GainTrees$Grower" "rows" "[I", Cond.fieldLink RX1 51 "GainTrees$Grower" "table" "LGainTrees$Table;", Cond.fieldLink RX1 18 "GainTrees$Grower" "sorted" "[I", Cond.methodLink RX1 147 yX8_cell, Cond.instanceMethod yX8_cell, Cond.selects RX8 yX8_cell yX8_cell, Cond.initialized RX8, Cond.code yX8_cell cX8_cell 3 (some .int), Cond.fieldLink RX8 15 "GainTrees$Table" "most" "I", Cond.fieldLink RX8 21 "GainTrees$Table" "cells" "[I", Cond.methodLink RX8 25 yX8_isColumn, Cond.static yX8_isColumn, Cond.code yX8_isColumn cX8_isColumn 1 (some .boolean)]
def wsX1_build_r3 : List Cond := [Cond.methodLink RX1 92 yX1_push, Cond.instanceMethod yX1_push, Cond.selects RX1 yX1_push yX1_push, Cond.code yX1_push cX1_push 5 none, Cond.methodLink RX1 96 yX9_add, Cond.instanceMethod yX9_add, Cond.selects RX9 yX9_add yX9_add, Cond.code yX9_add cX9_add 5 (some .int), Cond.fieldLink RX9 31 "GainTrees$Tree" "depth" "[I", Cond.fieldLink RX9 34 "GainTrees$Tree" "parent" "[I", Cond.fieldLink RX9 37 "GainTrees$Tree" "place" "[I", Cond.fieldLink RX9 22 "GainTrees$Tree" "result" "[I", Cond.fieldLink RX9 25 "GainTrees$Tree" "amount" "[I", Cond.fieldLink RX9 40 "GainTrees$Tree" "counts" "[I", Cond.methodLink RX9 56 yX9_depthBelow, Cond.instanceMethod yX9_depthBelow, Cond.selects RX9 yX9_depthBelow yX9_depthBelow, Cond.code yX9_depthBelow cX9_depthBelow 2 (some .int), Cond.methodLink RX9 60 yX9_makeLeaf, Cond.instanceMethod yX9_makeLeaf, Cond.selects RX9 yX9_makeLeaf yX9_makeLeaf, Cond.code yX9_makeLeaf cX9_makeLeaf 2 none, Cond.fieldLink RX9 9 "GainTrees$Tree" "attribute" "[I", Cond.fieldLink RX9 15 "GainTrees$Tree" "cut" "[I"]
def wsX1_build_r4 : List Cond := [Cond.fieldLink RX9 18 "GainTrees$Tree" "byCut" "[Z", Cond.fieldLink RX9 28 "GainTrees$Tree" "kids" "[I", Cond.methodLink RX1 100 yX1_isLeaf, Cond.instanceMethod yX1_isLeaf, Cond.selects RX1 yX1_isLeaf yX1_isLeaf, Cond.code yX1_isLeaf cX1_isLeaf 5 (some .boolean), Cond.fieldLink RX1 21 "GainTrees$Grower" "mark" "[I", Cond.fieldLink RX1 160 "GainTrees$Tree" "result" "[I", Cond.fieldLink RX1 163 "GainTrees$Tree" "counts" "[I", Cond.fieldLink RX1 166 "GainTrees$Tree" "depth" "[I", Cond.fieldLink RX1 70 "GainTrees$Grower" "depth" "I", Cond.methodLink RX1 150 yX8_classOf, Cond.instanceMethod yX8_classOf, Cond.selects RX8 yX8_classOf yX8_classOf, Cond.code yX8_classOf cX8_classOf 2 (some .int), Cond.methodLink RX8 29 yX8_cell, Cond.methodLink RX1 153 yX9_note, Cond.instanceMethod yX9_note, Cond.selects RX9 yX9_note yX9_note, Cond.code yX9_note cX9_note 3 none, Cond.methodLink RX1 157 yX9_commonest, Cond.instanceMethod yX9_commonest, Cond.selects RX9 yX9_commonest yX9_commonest, Cond.code yX9_commonest cX9_commonest 4 (some .int)]
def wsX1_build_r5 : List Cond := [Cond.methodLink RX1 104 yX1_findSplits, Cond.instanceMethod yX1_findSplits, Cond.selects RX1 yX1_findSplits yX1_findSplits, Cond.code yX1_findSplits cX1_findSplits 6 none, Cond.fieldLink RX1 43 "GainTrees$Grower" "best" "[LGainTrees$Split;", Cond.fieldLink RX1 168 "GainTrees$Split" "stands" "Z", Cond.methodLink RX1 172 yX1_tryCuts, Cond.instanceMethod yX1_tryCuts, Cond.selects RX1 yX1_tryCuts yX1_tryCuts, Cond.code yX1_tryCuts cX1_tryCuts 10 none, Cond.fieldLink RX1 39 "GainTrees$Grower" "trial" "LGainTrees$Split;", Cond.fieldLink RX1 194 "GainTrees$Split" "sizes" "[I", Cond.methodLink RX1 180 yX7_open, Cond.instanceMethod yX7_open, Cond.selects RX7 yX7_open yX7_open, Cond.initialized RX7, Cond.code yX7_open cX7_open 5 none, Cond.fieldLink RX7 18 "GainTrees$Split" "attribute" "I", Cond.methodLink RX7 22 Lib.Math.max.name, Cond.static Lib.Math.max.name, Cond.initialized "java/lang/Math", Cond.code Lib.Math.max.name Lib.Math.max.code 2 (some .int), Cond.methodLink RX7 28 Lib.Math.min.name, Cond.static Lib.Math.min.name]
def wsX1_build_r6 : List Cond := [Cond.code Lib.Math.min.name Lib.Math.min.code 2 (some .int), Cond.fieldLink RX7 31 "GainTrees$Split" "values" "I", Cond.fieldLink RX7 34 "GainTrees$Split" "cut" "I", Cond.fieldLink RX7 37 "GainTrees$Split" "children" "I", Cond.fieldLink RX7 40 "GainTrees$Split" "total" "I", Cond.fieldLink RX7 43 "GainTrees$Split" "stands" "Z", Cond.fieldLink RX7 9 "GainTrees$Split" "sizes" "[I", Cond.fieldLink RX7 15 "GainTrees$Split" "counts" "[I", Cond.methodLink RX1 187 yX7_take, Cond.instanceMethod yX7_take, Cond.selects RX7 yX7_take yX7_take, Cond.code yX7_take cX7_take 3 none, Cond.methodLink RX1 190 yX1_offer, Cond.instanceMethod yX1_offer, Cond.selects RX1 yX1_offer yX1_offer, Cond.code yX1_offer cX1_offer 2 none, Cond.fieldLink RX1 67 "GainTrees$Grower" "least" "I", Cond.fieldLink RX1 47 "GainTrees$Grower" "scale" "LGainTrees$Scale;", Cond.methodLink RX1 200 yX7_mayBe, Cond.instanceMethod yX7_mayBe, Cond.selects RX7 yX7_mayBe yX7_mayBe, Cond.code yX7_mayBe cX7_mayBe 4 (some .boolean), Cond.methodLink RX1 204 yX7_addSquares, Cond.instanceMethod yX7_addSquares]
def wsX1_build_r7 : List Cond := [Cond.selects RX7 yX7_addSquares yX7_addSquares, Cond.code yX7_addSquares cX7_addSquares 7 none, Cond.fieldLink RX7 56 "GainTrees$Split" "squares" "J", Cond.fieldLink RX7 59 "GainTrees$Split" "divisor" "J", Cond.methodLink RX1 207 yX6_weigh, Cond.instanceMethod yX6_weigh, Cond.selects RX6 yX6_weigh yX6_weigh, Cond.initialized RX6, Cond.code yX6_weigh cX6_weigh 6 none, Cond.fieldLink RX6 40 "GainTrees$Split" "children" "I", Cond.fieldLink RX6 46 "GainTrees$Split" "sizes" "[I", Cond.fieldLink RX6 53 "GainTrees$Split" "counts" "[I", Cond.fieldLink RX6 56 "GainTrees$Split" "weight" "J", Cond.methodLink RX6 49 yX6_timesLog, Cond.instanceMethod yX6_timesLog, Cond.selects RX6 yX6_timesLog yX6_timesLog, Cond.code yX6_timesLog cX6_timesLog 2 (some .long), Cond.fieldLink RX6 9 "GainTrees$Scale" "logs" "[I", Cond.methodLink RX1 212 yX6_order, Cond.instanceMethod yX6_order, Cond.selects RX6 yX6_order yX6_order, Cond.code yX6_order cX6_order 6 (some .int), Cond.constantLong RX6 67 (2), Cond.fieldLink RX6 60 "GainTrees$Split" "total" "I"]
def wsX1_build_r8 : List Cond := [Cond.methodLink RX6 63 yX6_orderOfSquares, Cond.static yX6_orderOfSquares, Cond.code yX6_orderOfSquares cX6_orderOfSquares 19 (some .int), Cond.fieldLink RX6 97 "GainTrees$Split" "squares" "J", Cond.fieldLink RX6 100 "GainTrees$Split" "divisor" "J", Cond.methodLink RX6 91 yJ13_compare_74951, Cond.static yJ13_compare_74951, Cond.initialized RJ13, Cond.code yJ13_compare_74951 cJ13_compare_74951 4 (some .int), Cond.methodLink RX6 69 yX6_clearPowers, Cond.instanceMethod yX6_clearPowers, Cond.selects RX6 yX6_clearPowers yX6_clearPowers, Cond.code yX6_clearPowers cX6_clearPowers 2 none, Cond.fieldLink RX6 18 "GainTrees$Scale" "power" "[I", Cond.methodLink RX6 72 yX6_addPowers, Cond.instanceMethod yX6_addPowers, Cond.selects RX6 yX6_addPowers yX6_addPowers, Cond.code yX6_addPowers cX6_addPowers 5 none, Cond.methodLink RX6 103 yX6_addPower, Cond.instanceMethod yX6_addPower, Cond.selects RX6 yX6_addPower yX6_addPower, Cond.code yX6_addPower cX6_addPower 3 none, Cond.methodLink RX6 76 yX6_sign, Cond.instanceMethod yX6_sign]
def wsX1_build_r9 : List Cond := [Cond.selects RX6 yX6_sign yX6_sign, Cond.code yX6_sign cX6_sign 7 (some .int), Cond.methodLink RX6 107 Lib.Math.abs.name, Cond.static Lib.Math.abs.name, Cond.code Lib.Math.abs.name Lib.Math.abs.code 1 (some .int), Cond.fieldLink RX6 24 "GainTrees$Scale" "above" "LGainTrees$Product;", Cond.fieldLink RX6 28 "GainTrees$Scale" "below" "LGainTrees$Product;", Cond.fieldLink RX6 15 "GainTrees$Scale" "factor" "[I", Cond.methodLink RX6 112 yX3_begin, Cond.instanceMethod yX3_begin, Cond.selects RX3 yX3_begin yX3_begin, Cond.initialized RX3, Cond.code yX3_begin cX3_begin 1 none, Cond.fieldLink RX3 9 "GainTrees$Product" "limbs" "[I", Cond.fieldLink RX3 13 "GainTrees$Product" "used" "I", Cond.methodLink RX6 115 yX3_raise, Cond.instanceMethod yX3_raise, Cond.selects RX3 yX3_raise yX3_raise, Cond.code yX3_raise cX3_raise 11 none, Cond.constantLong RX3 17 (4194304), Cond.constantLong RX3 19 (2147483647), Cond.methodLink RX6 118 yX3_order, Cond.instanceMethod yX3_order, Cond.selects RX3 yX3_order yX3_order]
def wsX1_build_r10 : List Cond := [Cond.code yX3_order cX3_order 3 (some .int), Cond.methodLink RX1 216 yX7_copy, Cond.instanceMethod yX7_copy, Cond.selects RX7 yX7_copy yX7_copy, Cond.code yX7_copy cX7_copy 2 none, Cond.fieldLink RX7 52 "GainTrees$Split" "weight" "J", Cond.methodLink RX7 62 arraycopyName, Cond.native arraycopyName, Cond.static arraycopyName, Cond.initialized "java/lang/System", Cond.methodLink RX1 197 yX7_shift, Cond.instanceMethod yX7_shift, Cond.selects RX7 yX7_shift yX7_shift, Cond.code yX7_shift cX7_shift 2 none, Cond.methodLink RX1 176 yX1_tryValues, Cond.instanceMethod yX1_tryValues, Cond.selects RX1 yX1_tryValues yX1_tryValues, Cond.code yX1_tryValues cX1_tryValues 6 none, Cond.methodLink RX1 183 yX7_branch, Cond.instanceMethod yX7_branch, Cond.selects RX7 yX7_branch yX7_branch, Cond.code yX7_branch cX7_branch 4 (some .int), Cond.methodLink RX7 47 yX8_cell, Cond.methodLink RX1 108 yX1_chooseByRatio]
def wsX1_build_r11 : List Cond := [Cond.instanceMethod yX1_chooseByRatio, Cond.selects RX1 yX1_chooseByRatio yX1_chooseByRatio, Cond.code yX1_chooseByRatio cX1_chooseByRatio 4 (some (.object "GainTrees$Split")), Cond.methodLink RX1 219 yX6_isUpToMean, Cond.instanceMethod yX6_isUpToMean, Cond.selects RX6 yX6_isUpToMean yX6_isUpToMean, Cond.code yX6_isUpToMean cX6_isUpToMean 6 (some .boolean), Cond.fieldLink RX6 80 "GainTrees$Split" "stands" "Z", Cond.methodLink RX1 223 yX6_orderOfRatios, Cond.instanceMethod yX6_orderOfRatios, Cond.selects RX6 yX6_orderOfRatios yX6_orderOfRatios, Cond.code yX6_orderOfRatios cX6_orderOfRatios 3 (some .int), Cond.methodLink RX6 84 yX6_gainOf, Cond.instanceMethod yX6_gainOf, Cond.selects RX6 yX6_gainOf yX6_gainOf, Cond.code yX6_gainOf cX6_gainOf 7 (some .long), Cond.methodLink RX6 88 yX6_widthOf, Cond.instanceMethod yX6_widthOf, Cond.selects RX6 yX6_widthOf yX6_widthOf, Cond.code yX6_widthOf cX6_widthOf 5 (some .long), Cond.methodLink RX1 112 yX1_chooseBest, Cond.instanceMethod yX1_chooseBest, Cond.selects RX1 yX1_chooseBest yX1_chooseBest, Cond.code yX1_chooseBest cX1_chooseBest 4 (some (.object "GainTrees$Split"))]
def wsX1_build_r12 : List Cond := [Cond.methodLink RX1 124 yX9_fork, Cond.instanceMethod yX9_fork, Cond.selects RX9 yX9_fork yX9_fork, Cond.code yX9_fork cX9_fork 5 none, Cond.methodLink RX1 127 yX1_part, Cond.instanceMethod yX1_part, Cond.selects RX1 yX1_part yX1_part, Cond.code yX1_part cX1_part 8 none, Cond.fieldLink RX1 227 "GainTrees$Split" "children" "I", Cond.fieldLink RX1 15 "GainTrees$Grower" "parted" "[I", Cond.methodLink RX1 131 yX9_finish, Cond.instanceMethod yX9_finish, Cond.selects RX9 yX9_finish yX9_finish, Cond.code yX9_finish cX9_finish 4 none, Cond.fieldLink RX9 43 "GainTrees$Tree" "after" "[I"]
def wsX1_build : List Cond := .code yX1_build cX1_build 8 none :: ((wsX1_build_r1 ++ (wsX1_build_r2 ++ (wsX1_build_r3 ++ (wsX1_build_r4 ++ (wsX1_build_r5 ++ (wsX1_build_r6 ++ (wsX1_build_r7 ++ (wsX1_build_r8 ++ (wsX1_build_r9 ++ (wsX1_build_r10 ++ (wsX1_build_r11 ++ wsX1_build_r12))))))))))) ++ wsX10 ++ wsX70 ++ wsX90 ++ wsX20 ++ wsX80 ++ wsX60 ++ wsX30)
def wsX2_init : List Cond := .code yX2_init cX2_init 1 none :: ([.methodLink RX2 5 objectInit, .instanceMethod objectInit, .code objectInit ⟨#[0xb1]⟩ 1 none, .arrayClass .byte, .fieldLink RX2 11 "GainTrees$Names" "letters" "[B", .arrayClass .int, .fieldLink RX2 15 "GainTrees$Names" "lengths" "[I", .fieldLink RX2 19 "GainTrees$Names" "values" "[I"] ++ wsX20)
def wsX2_wipe : List Cond := .code yX2_wipe cX2_wipe 1 none :: ([.fieldLink RX2 22 "GainTrees$Names" "classes" "I", .fieldLink RX2 26 "GainTrees$Names" "attributes" "I"] ++ wsX20)
def wsX2_attributeSlot : List Cond := .code yX2_attributeSlot cX2_attributeSlot 1 (some .int) :: ([])
def wsX2_valueSlot : List Cond := .code yX2_valueSlot cX2_valueSlot 2 (some .int) :: ([])
def wsX2_addAttribute : List Cond := .code yX2_addAttribute cX2_addAttribute 1 none :: ([.fieldLink RX2 26 "GainTrees$Names" "attributes" "I", .fieldLink RX2 19 "GainTrees$Names" "values" "[I"] ++ wsX20)
def wsX2_setValues : List Cond := .code yX2_setValues cX2_setValues 3 none :: ([.fieldLink RX2 26 "GainTrees$Names" "attributes" "I", .fieldLink RX2 19 "GainTrees$Names" "values" "[I"] ++ wsX20)
def wsX2_put : List Cond := .code yX2_put cX2_put 7 none :: ([.fieldLink RX2 11 "GainTrees$Names" "letters" "[B", .fieldLink RX2 15 "GainTrees$Names" "lengths" "[I", .methodLink RX2 29 yX0_at, .instanceMethod yX0_at, .selects RX0 yX0_at yX0_at, .initialized RX0, .code yX0_at cX0_at 2 (some .int), .fieldLink RX0 21 "GainTrees$Bytes" "kept" "I", .fieldLink RX0 15 "GainTrees$Bytes" "data" "[B"] ++ wsX20 ++ wsX00)
def wsX2_lengthOf : List Cond := .code yX2_lengthOf cX2_lengthOf 2 (some .int) :: ([.fieldLink RX2 15 "GainTrees$Names" "lengths" "[I"] ++ wsX20)
def wsX2_letterOf : List Cond := .code yX2_letterOf cX2_letterOf 3 (some .int) :: ([.fieldLink RX2 11 "GainTrees$Names" "letters" "[B"] ++ wsX20)
def wsX2_holds : List Cond := .code yX2_holds cX2_holds 6 (some .boolean) :: ([.methodLink RX2 39 yX2_lengthOf, .instanceMethod yX2_lengthOf, .selects RX2 yX2_lengthOf yX2_lengthOf, .initialized RX2, .code yX2_lengthOf cX2_lengthOf 2 (some .int), .fieldLink RX2 15 "GainTrees$Names" "lengths" "[I", .methodLink RX2 42 yX2_letterOf, .instanceMethod yX2_letterOf, .selects RX2 yX2_letterOf yX2_letterOf, .code yX2_letterOf cX2_letterOf 3 (some .int), .fieldLink RX2 11 "GainTrees$Names" "letters" "[B", .methodLink RX2 29 yX0_at, .instanceMethod yX0_at, .selects RX0 yX0_at yX0_at, .initialized RX0, .code yX0_at cX0_at 2 (some .int), .fieldLink RX0 21 "GainTrees$Bytes" "kept" "I", .fieldLink RX0 15 "GainTrees$Bytes" "data" "[B"] ++ wsX20 ++ wsX00)
def wsX2_seek : List Cond := .code yX2_seek cX2_seek 7 (some .int) :: ([.methodLink RX2 35 yX2_holds, .instanceMethod yX2_holds, .selects RX2 yX2_holds yX2_holds, .initialized RX2, .code yX2_holds cX2_holds 6 (some .boolean), .methodLink RX2 39 yX2_lengthOf, .instanceMethod yX2_lengthOf, .selects RX2 yX2_lengthOf yX2_lengthOf, .code yX2_lengthOf cX2_lengthOf 2 (some .int), .fieldLink RX2 15 "GainTrees$Names" "lengths" "[I", .methodLink RX2 42 yX2_letterOf, .instanceMethod yX2_letterOf, .selects RX2 yX2_letterOf yX2_letterOf, .code yX2_letterOf cX2_letterOf 3 (some .int), .fieldLink RX2 11 "GainTrees$Names" "letters" "[B", .methodLink RX2 29 yX0_at, .instanceMethod yX0_at, .selects RX0 yX0_at yX0_at, .initialized RX0, .code yX0_at cX0_at 2 (some .int), .fieldLink RX0 21 "GainTrees$Bytes" "kept" "I", .fieldLink RX0 15 "GainTrees$Bytes" "data" "[B"] ++ wsX20 ++ wsX00)
def wsX3_init : List Cond := .code yX3_init cX3_init 1 none :: ([.methodLink RX3 3 objectInit, .instanceMethod objectInit, .code objectInit ⟨#[0xb1]⟩ 1 none, .arrayClass .int, .fieldLink RX3 9 "GainTrees$Product" "limbs" "[I"] ++ wsX30)
def wsX4_init : List Cond := .code yX4_init cX4_init 2 none :: ([.methodLink RX4 3 objectInit, .instanceMethod objectInit, .code objectInit ⟨#[0xb1]⟩ 1 none, .fieldLink RX4 9 "GainTrees$Reader" "faultAt" "I", .fieldLink RX4 15 "GainTrees$Reader" "tape" "LGainTrees$Bytes;"] ++ wsX40)
def wsX4_isBlank : List Cond := .code yX4_isBlank cX4_isBlank 1 (some .boolean) :: ([])
def wsX4_isLetter : List Cond := .code yX4_isLetter cX4_isLetter 1 (some .boolean) :: ([])
def wsX4_isDigit : List Cond := .code yX4_isDigit cX4_isDigit 1 (some .boolean) :: ([])
def wsX4_stepWord : List Cond := .code yX4_stepWord cX4_stepWord 1 none :: ([.fieldLink RX4 22 "GainTrees$Reader" "to" "I", .fieldLink RX4 15 "GainTrees$Reader" "tape" "LGainTrees$Bytes;", .fieldLink RX4 31 "GainTrees$Bytes" "kept" "I", .fieldLink RX4 28 "GainTrees$Reader" "from" "I", .fieldLink RX4 44 "GainTrees$Reader" "kind" "I", .methodLink RX4 36 yX0_at, .instanceMethod yX0_at, .selects RX0 yX0_at yX0_at, .initialized RX0, .code yX0_at cX0_at 2 (some .int), .fieldLink RX0 21 "GainTrees$Bytes" "kept" "I", .fieldLink RX0 15 "GainTrees$Bytes" "data" "[B", .methodLink RX4 47 yX4_isLetter, .static yX4_isLetter, .initialized RX4, .code yX4_isLetter cX4_isLetter 1 (some .boolean), .methodLink RX4 53 yX4_isDigit, .static yX4_isDigit, .code yX4_isDigit cX4_isDigit 1 (some .boolean)] ++ wsX40 ++ wsX00)
def wsX4_stepNumber : List Cond := .code yX4_stepNumber cX4_stepNumber 5 none :: ([.fieldLink RX4 15 "GainTrees$Reader" "tape" "LGainTrees$Bytes;", .fieldLink RX4 22 "GainTrees$Reader" "to" "I", .fieldLink RX4 63 "GainTrees$Reader" "number" "J", .fieldLink RX4 31 "GainTrees$Bytes" "kept" "I", .constantLong RX4 67 (10), .constantLong RX4 69 (1000), .fieldLink RX4 44 "GainTrees$Reader" "kind" "I", .methodLink RX4 36 yX0_at, .instanceMethod yX0_at, .selects RX0 yX0_at yX0_at, .initialized RX0, .code yX0_at cX0_at 2 (some .int), .fieldLink RX0 21 "GainTrees$Bytes" "kept" "I", .fieldLink RX0 15 "GainTrees$Bytes" "data" "[B", .methodLink RX4 53 yX4_isDigit, .static yX4_isDigit, .initialized RX4, .code yX4_isDigit cX4_isDigit 1 (some .boolean)] ++ wsX40 ++ wsX00)
def wsX4_stepSign : List Cond := .code yX4_stepSign cX4_stepSign 4 none :: ([.fieldLink RX4 15 "GainTrees$Reader" "tape" "LGainTrees$Bytes;", .fieldLink RX4 22 "GainTrees$Reader" "to" "I", .fieldLink RX4 44 "GainTrees$Reader" "kind" "I", .methodLink RX4 36 yX0_at, .instanceMethod yX0_at, .selects RX0 yX0_at yX0_at, .initialized RX0, .code yX0_at cX0_at 2 (some .int), .fieldLink RX0 21 "GainTrees$Bytes" "kept" "I", .fieldLink RX0 15 "GainTrees$Bytes" "data" "[B"] ++ wsX40 ++ wsX00)
def wsX4_step_r1 : List Cond := [Cond.fieldLink RX4 22 "GainTrees$Reader" "to" "I", Cond.fieldLink RX4 15 "GainTrees$Reader" "tape" "LGainTrees$Bytes;", Cond.fieldLink RX4 31 "GainTrees$Bytes" "kept" "I", Cond.fieldLink RX4 28 "GainTrees$Reader" "from" "I", Cond.fieldLink RX4 44 "GainTrees$Reader" "kind" "I", Cond.methodLink RX4 36 yX0_at, Cond.instanceMethod yX0_at, Cond.selects RX0 yX0_at yX0_at, Cond.initialized RX0, Cond.code yX0_at cX0_at 2 (some .int), Cond.fieldLink RX0 21 "GainTrees$Bytes" "kept" "I", Cond.fieldLink RX0 15 "GainTrees$Bytes" "data" "[B", Cond.methodLink RX4 40 yX4_isBlank, Cond.static yX4_isBlank, Cond.initialized RX4, Cond.code yX4_isBlank cX4_isBlank 1 (some .boolean), Cond.methodLink RX4 47 yX4_isLetter, Cond.static yX4_isLetter, Cond.code yX4_isLetter cX4_isLetter 1 (some .boolean), Cond.methodLink RX4 50 yX4_stepWord, Cond.instanceMethod yX4_stepWord, Cond.selects RX4 yX4_stepWord yX4_stepWord, Cond.code yX4_stepWord cX4_stepWord 1 none, Cond.methodLink RX4 53 yX4_isDigit]
def wsX4_step_r2 : List Cond := [Cond.static yX4_isDigit, Cond.code yX4_isDigit cX4_isDigit 1 (some .boolean), Cond.methodLink RX4 56 yX4_stepNumber, Cond.instanceMethod yX4_stepNumber, Cond.selects RX4 yX4_stepNumber yX4_stepNumber, Cond.code yX4_stepNumber cX4_stepNumber 5 none, Cond.fieldLink RX4 63 "GainTrees$Reader" "number" "J", Cond.constantLong RX4 67 (10), Cond.constantLong RX4 69 (1000), Cond.methodLink RX4 59 yX4_stepSign, Cond.instanceMethod yX4_stepSign, Cond.selects RX4 yX4_stepSign yX4_stepSign, Cond.code yX4_stepSign cX4_stepSign 4 none]
def wsX4_step : List Cond := .code yX4_step cX4_step 2 none :: ((wsX4_step_r1 ++ wsX4_step_r2) ++ wsX40 ++ wsX00)
def wsX4_begin_r1 : List Cond := [Cond.fieldLink RX4 19 "GainTrees$Reader" "fault" "I", Cond.fieldLink RX4 9 "GainTrees$Reader" "faultAt" "I", Cond.fieldLink RX4 22 "GainTrees$Reader" "to" "I", Cond.methodLink RX4 25 yX4_step, Cond.instanceMethod yX4_step, Cond.selects RX4 yX4_step yX4_step, Cond.initialized RX4, Cond.code yX4_step cX4_step 2 none, Cond.fieldLink RX4 15 "GainTrees$Reader" "tape" "LGainTrees$Bytes;", Cond.fieldLink RX4 31 "GainTrees$Bytes" "kept" "I", Cond.fieldLink RX4 28 "GainTrees$Reader" "from" "I", Cond.fieldLink RX4 44 "GainTrees$Reader" "kind" "I", Cond.methodLink RX4 36 yX0_at, Cond.instanceMethod yX0_at, Cond.selects RX0 yX0_at yX0_at, Cond.initialized RX0, Cond.code yX0_at cX0_at 2 (some .int), Cond.fieldLink RX0 21 "GainTrees$Bytes" "kept" "I", Cond.fieldLink RX0 15 "GainTrees$Bytes" "data" "[B", Cond.methodLink RX4 40 yX4_isBlank, Cond.static yX4_isBlank, Cond.code yX4_isBlank cX4_isBlank 1 (some .boolean), Cond.methodLink RX4 47 yX4_isLetter, Cond.static yX4_isLetter]
def wsX4_begin_r2 : List Cond := [Cond.code yX4_isLetter cX4_isLetter 1 (some .boolean), Cond.methodLink RX4 50 yX4_stepWord, Cond.instanceMethod yX4_stepWord, Cond.selects RX4 yX4_stepWord yX4_stepWord, Cond.code yX4_stepWord cX4_stepWord 1 none, Cond.methodLink RX4 53 yX4_isDigit, Cond.static yX4_isDigit, Cond.code yX4_isDigit cX4_isDigit 1 (some .boolean), Cond.methodLink RX4 56 yX4_stepNumber, Cond.instanceMethod yX4_stepNumber, Cond.selects RX4 yX4_stepNumber yX4_stepNumber, Cond.code yX4_stepNumber cX4_stepNumber 5 none, Cond.fieldLink RX4 63 "GainTrees$Reader" "number" "J", Cond.constantLong RX4 67 (10), Cond.constantLong RX4 69 (1000), Cond.methodLink RX4 59 yX4_stepSign, Cond.instanceMethod yX4_stepSign, Cond.selects RX4 yX4_stepSign yX4_stepSign, Cond.code yX4_stepSign cX4_stepSign 4 none]
def wsX4_begin : List Cond := .code yX4_begin cX4_begin 1 none :: ((wsX4_begin_r1 ++ wsX4_begin_r2) ++ wsX40 ++ wsX00)
def wsX4_fail : List Cond := .code yX4_fail cX4_fail 2 (some .boolean) :: ([.fieldLink RX4 19 "GainTrees$Reader" "fault" "I", .fieldLink RX4 28 "GainTrees$Reader" "from" "I", .fieldLink RX4 9 "GainTrees$Reader" "faultAt" "I"] ++ wsX40)
def wsJ0_coder_7d493 : List Cond := .code yJ0_coder_7d493 cJ0_coder_7d493 1 (some .byte) :: ([.fieldLink RJ0 38 "java/lang/String" "COMPACT_STRINGS" "Z", .fieldLink RJ0 15 "java/lang/String" "coder" "B"])
def wsJ0_length_8abf5 : List Cond := .code yJ0_length_8abf5 cJ0_length_8abf5 1 (some .int) :: ([.fieldLink RJ0 9 "java/lang/String" "value" "[B", .methodLink RJ0 335 yJ0_coder_7d493, .instanceMethod yJ0_coder_7d493, .selects RJ0 yJ0_coder_7d493 yJ0_coder_7d493, .initialized RJ0, .code yJ0_coder_7d493 cJ0_coder_7d493 1 (some .byte), .fieldLink RJ0 38 "java/lang/String" "COMPACT_STRINGS" "Z", .fieldLink RJ0 15 "java/lang/String" "coder" "B"])
def wsJ0_isLatin1_aae02 : List Cond := .code yJ0_isLatin1_aae02 cJ0_isLatin1_aae02 1 (some .boolean) :: ([.fieldLink RJ0 38 "java/lang/String" "COMPACT_STRINGS" "Z", .fieldLink RJ0 15 "java/lang/String" "coder" "B"])
def wsJ3_checkIndex_8e157 : List Cond := .code yJ3_checkIndex_8e157 cJ3_checkIndex_8e157 3 (some .int) :: ([])
def wsJ0_checkIndex_df160 : List Cond := .code yJ0_checkIndex_df160 cJ0_checkIndex_df160 2 none :: ([.fieldLink RJ0 1053 "jdk/internal/util/Preconditions" "SIOOBE_FORMATTER" "Ljava/util/function/BiFunction;", .methodLink RJ0 1059 yJ3_checkIndex_8e157, .static yJ3_checkIndex_8e157, .initialized RJ3, .code yJ3_checkIndex_8e157 cJ3_checkIndex_8e157 3 (some .int)])
def wsJ1_charAt_3b067 : List Cond := .code yJ1_charAt_3b067 cJ1_charAt_3b067 2 (some .char) :: ([.methodLink RJ1 9 yJ0_checkIndex_df160, .static yJ0_checkIndex_df160, .initialized RJ0, .code yJ0_checkIndex_df160 cJ0_checkIndex_df160 2 none, .fieldLink RJ0 1053 "jdk/internal/util/Preconditions" "SIOOBE_FORMATTER" "Ljava/util/function/BiFunction;", .methodLink RJ0 1059 yJ3_checkIndex_8e157, .static yJ3_checkIndex_8e157, .initialized RJ3, .code yJ3_checkIndex_8e157 cJ3_checkIndex_8e157 3 (some .int)])
def wsJ2_length_9d52b : List Cond := .code yJ2_length_9d52b cJ2_length_9d52b 1 (some .int) :: ([])
def wsJ2_checkIndex_2214a : List Cond := .code yJ2_checkIndex_2214a cJ2_checkIndex_2214a 2 none :: ([.methodLink RJ2 48 yJ2_length_9d52b, .static yJ2_length_9d52b, .initialized RJ2, .code yJ2_length_9d52b cJ2_length_9d52b 1 (some .int), .methodLink RJ2 414 yJ0_checkIndex_df160, .static yJ0_checkIndex_df160, .initialized RJ0, .code yJ0_checkIndex_df160 cJ0_checkIndex_df160 2 none, .fieldLink RJ0 1053 "jdk/internal/util/Preconditions" "SIOOBE_FORMATTER" "Ljava/util/function/BiFunction;", .methodLink RJ0 1059 yJ3_checkIndex_8e157, .static yJ3_checkIndex_8e157, .initialized RJ3, .code yJ3_checkIndex_8e157 cJ3_checkIndex_8e157 3 (some .int)])
def wsJ2_getChar_3b067 : List Cond := .code yJ2_getChar_3b067 cJ2_getChar_3b067 2 (some .char) :: ([.fieldLink RJ2 44 "java/lang/StringUTF16" "$assertionsDisabled" "Z", .fieldLink RJ2 59 "java/lang/StringUTF16" "HI_BYTE_SHIFT" "I", .fieldLink RJ2 63 "java/lang/StringUTF16" "LO_BYTE_SHIFT" "I", .methodLink RJ2 48 yJ2_length_9d52b, .static yJ2_length_9d52b, .initialized RJ2, .code yJ2_length_9d52b cJ2_length_9d52b 1 (some .int)])
def wsJ2_charAt_3b067 : List Cond := .code yJ2_charAt_3b067 cJ2_charAt_3b067 2 (some .char) :: ([.methodLink RJ2 67 yJ2_checkIndex_2214a, .static yJ2_checkIndex_2214a, .initialized RJ2, .code yJ2_checkIndex_2214a cJ2_checkIndex_2214a 2 none, .methodLink RJ2 48 yJ2_length_9d52b, .static yJ2_length_9d52b, .code yJ2_length_9d52b cJ2_length_9d52b 1 (some .int), .methodLink RJ2 414 yJ0_checkIndex_df160, .static yJ0_checkIndex_df160, .initialized RJ0, .code yJ0_checkIndex_df160 cJ0_checkIndex_df160 2 none, .fieldLink RJ0 1053 "jdk/internal/util/Preconditions" "SIOOBE_FORMATTER" "Ljava/util/function/BiFunction;", .methodLink RJ0 1059 yJ3_checkIndex_8e157, .static yJ3_checkIndex_8e157, .initialized RJ3, .code yJ3_checkIndex_8e157 cJ3_checkIndex_8e157 3 (some .int), .methodLink RJ2 71 yJ2_getChar_3b067, .static yJ2_getChar_3b067, .code yJ2_getChar_3b067 cJ2_getChar_3b067 2 (some .char), .fieldLink RJ2 44 "java/lang/StringUTF16" "$assertionsDisabled" "Z", .fieldLink RJ2 59 "java/lang/StringUTF16" "HI_BYTE_SHIFT" "I", .fieldLink RJ2 63 "java/lang/StringUTF16" "LO_BYTE_SHIFT" "I"])
def wsJ0_charAt_5068e_r1 : List Cond := [Cond.fieldLink RJ0 9 "java/lang/String" "value" "[B", Cond.methodLink RJ0 492 yJ0_isLatin1_aae02, Cond.instanceMethod yJ0_isLatin1_aae02, Cond.selects RJ0 yJ0_isLatin1_aae02 yJ0_isLatin1_aae02, Cond.initialized RJ0, Cond.code yJ0_isLatin1_aae02 cJ0_isLatin1_aae02 1 (some .boolean), Cond.fieldLink RJ0 38 "java/lang/String" "COMPACT_STRINGS" "Z", Cond.fieldLink RJ0 15 "java/lang/String" "coder" "B", Cond.methodLink RJ0 495 yJ1_charAt_3b067, Cond.static yJ1_charAt_3b067, Cond.initialized RJ1, Cond.code yJ1_charAt_3b067 cJ1_charAt_3b067 2 (some .char), Cond.methodLink RJ1 9 yJ0_checkIndex_df160, Cond.static yJ0_checkIndex_df160, Cond.code yJ0_checkIndex_df160 cJ0_checkIndex_df160 2 none, Cond.fieldLink RJ0 1053 "jdk/internal/util/Preconditions" "SIOOBE_FORMATTER" "Ljava/util/function/BiFunction;", Cond.methodLink RJ0 1059 yJ3_checkIndex_8e157, Cond.static yJ3_checkIndex_8e157, Cond.initialized RJ3, Cond.code yJ3_checkIndex_8e157 cJ3_checkIndex_8e157 3 (some .int), Cond.methodLink RJ0 498 yJ2_charAt_3b067, Cond.static yJ2_charAt_3b067, Cond.initialized RJ2, Cond.code yJ2_charAt_3b067 cJ2_charAt_3b067 2 (some .char)]
def wsJ0_charAt_5068e_r2 : List Cond := [Cond.methodLink RJ2 67 yJ2_checkIndex_2214a, Cond.static yJ2_checkIndex_2214a, Cond.code yJ2_checkIndex_2214a cJ2_checkIndex_2214a 2 none, Cond.methodLink RJ2 48 yJ2_length_9d52b, Cond.static yJ2_length_9d52b, Cond.code yJ2_length_9d52b cJ2_length_9d52b 1 (some .int), Cond.methodLink RJ2 414 yJ0_checkIndex_df160, Cond.methodLink RJ2 71 yJ2_getChar_3b067, Cond.static yJ2_getChar_3b067, Cond.code yJ2_getChar_3b067 cJ2_getChar_3b067 2 (some .char), Cond.fieldLink RJ2 44 "java/lang/StringUTF16" "$assertionsDisabled" "Z", Cond.fieldLink RJ2 59 "java/lang/StringUTF16" "HI_BYTE_SHIFT" "I", Cond.fieldLink RJ2 63 "java/lang/StringUTF16" "LO_BYTE_SHIFT" "I"]
def wsJ0_charAt_5068e : List Cond := .code yJ0_charAt_5068e cJ0_charAt_5068e 2 (some .char) :: ((wsJ0_charAt_5068e_r1 ++ wsJ0_charAt_5068e_r2))
def wsX4_isWord_r1 : List Cond := [Cond.fieldLink RX4 44 "GainTrees$Reader" "kind" "I", Cond.fieldLink RX4 22 "GainTrees$Reader" "to" "I", Cond.fieldLink RX4 28 "GainTrees$Reader" "from" "I", Cond.fieldLink RX4 15 "GainTrees$Reader" "tape" "LGainTrees$Bytes;", Cond.methodLink RX4 71 yJ0_length_8abf5, Cond.instanceMethod yJ0_length_8abf5, Cond.selects RJ0 yJ0_length_8abf5 yJ0_length_8abf5, Cond.initialized RJ0, Cond.code yJ0_length_8abf5 cJ0_length_8abf5 1 (some .int), Cond.fieldLink RJ0 9 "java/lang/String" "value" "[B", Cond.methodLink RJ0 335 yJ0_coder_7d493, Cond.instanceMethod yJ0_coder_7d493, Cond.selects RJ0 yJ0_coder_7d493 yJ0_coder_7d493, Cond.code yJ0_coder_7d493 cJ0_coder_7d493 1 (some .byte), Cond.fieldLink RJ0 38 "java/lang/String" "COMPACT_STRINGS" "Z", Cond.fieldLink RJ0 15 "java/lang/String" "coder" "B", Cond.methodLink RX4 77 yJ0_charAt_5068e, Cond.instanceMethod yJ0_charAt_5068e, Cond.selects RJ0 yJ0_charAt_5068e yJ0_charAt_5068e, Cond.code yJ0_charAt_5068e cJ0_charAt_5068e 2 (some .char), Cond.methodLink RJ0 492 yJ0_isLatin1_aae02, Cond.instanceMethod yJ0_isLatin1_aae02, Cond.selects RJ0 yJ0_isLatin1_aae02 yJ0_isLatin1_aae02, Cond.code yJ0_isLatin1_aae02 cJ0_isLatin1_aae02 1 (some .boolean)]
def wsX4_isWord_r2 : List Cond := [Cond.methodLink RJ0 495 yJ1_charAt_3b067, Cond.static yJ1_charAt_3b067, Cond.initialized RJ1, Cond.code yJ1_charAt_3b067 cJ1_charAt_3b067 2 (some .char), Cond.methodLink RJ1 9 yJ0_checkIndex_df160, Cond.static yJ0_checkIndex_df160, Cond.code yJ0_checkIndex_df160 cJ0_checkIndex_df160 2 none, Cond.fieldLink RJ0 1053 "jdk/internal/util/Preconditions" "SIOOBE_FORMATTER" "Ljava/util/function/BiFunction;", Cond.methodLink RJ0 1059 yJ3_checkIndex_8e157, Cond.static yJ3_checkIndex_8e157, Cond.initialized RJ3, Cond.code yJ3_checkIndex_8e157 cJ3_checkIndex_8e157 3 (some .int), Cond.methodLink RJ0 498 yJ2_charAt_3b067, Cond.static yJ2_charAt_3b067, Cond.initialized RJ2, Cond.code yJ2_charAt_3b067 cJ2_charAt_3b067 2 (some .char), Cond.methodLink RJ2 67 yJ2_checkIndex_2214a, Cond.static yJ2_checkIndex_2214a, Cond.code yJ2_checkIndex_2214a cJ2_checkIndex_2214a 2 none, Cond.methodLink RJ2 48 yJ2_length_9d52b, Cond.static yJ2_length_9d52b, Cond.code yJ2_length_9d52b cJ2_length_9d52b 1 (some .int), Cond.methodLink RJ2 414 yJ0_checkIndex_df160, Cond.methodLink RJ2 71 yJ2_getChar_3b067]
def wsX4_isWord_r3 : List Cond := [Cond.static yJ2_getChar_3b067, Cond.code yJ2_getChar_3b067 cJ2_getChar_3b067 2 (some .char), Cond.fieldLink RJ2 44 "java/lang/StringUTF16" "$assertionsDisabled" "Z", Cond.fieldLink RJ2 59 "java/lang/StringUTF16" "HI_BYTE_SHIFT" "I", Cond.fieldLink RJ2 63 "java/lang/StringUTF16" "LO_BYTE_SHIFT" "I", Cond.methodLink RX4 36 yX0_at, Cond.instanceMethod yX0_at, Cond.selects RX0 yX0_at yX0_at, Cond.initialized RX0, Cond.code yX0_at cX0_at 2 (some .int), Cond.fieldLink RX0 21 "GainTrees$Bytes" "kept" "I", Cond.fieldLink RX0 15 "GainTrees$Bytes" "data" "[B"]
def wsX4_isWord : List Cond := .code yX4_isWord cX4_isWord 3 (some .boolean) :: ((wsX4_isWord_r1 ++ (wsX4_isWord_r2 ++ wsX4_isWord_r3)) ++ wsX40 ++ wsX00)
def wsX4_isReserved_r1 : List Cond := [Cond.methodLink RX4 83 yX4_isWord, Cond.instanceMethod yX4_isWord, Cond.selects RX4 yX4_isWord yX4_isWord, Cond.initialized RX4, Cond.code yX4_isWord cX4_isWord 3 (some .boolean), Cond.fieldLink RX4 44 "GainTrees$Reader" "kind" "I", Cond.fieldLink RX4 22 "GainTrees$Reader" "to" "I", Cond.fieldLink RX4 28 "GainTrees$Reader" "from" "I", Cond.fieldLink RX4 15 "GainTrees$Reader" "tape" "LGainTrees$Bytes;", Cond.methodLink RX4 71 yJ0_length_8abf5, Cond.instanceMethod yJ0_length_8abf5, Cond.selects RJ0 yJ0_length_8abf5 yJ0_length_8abf5, Cond.initialized RJ0, Cond.code yJ0_length_8abf5 cJ0_length_8abf5 1 (some .int), Cond.fieldLink RJ0 9 "java/lang/String" "value" "[B", Cond.methodLink RJ0 335 yJ0_coder_7d493, Cond.instanceMethod yJ0_coder_7d493, Cond.selects RJ0 yJ0_coder_7d493 yJ0_coder_7d493, Cond.code yJ0_coder_7d493 cJ0_coder_7d493 1 (some .byte), Cond.fieldLink RJ0 38 "java/lang/String" "COMPACT_STRINGS" "Z", Cond.fieldLink RJ0 15 "java/lang/String" "coder" "B", Cond.methodLink RX4 77 yJ0_charAt_5068e, Cond.instanceMethod yJ0_charAt_5068e, Cond.selects RJ0 yJ0_charAt_5068e yJ0_charAt_5068e]
def wsX4_isReserved_r2 : List Cond := [Cond.code yJ0_charAt_5068e cJ0_charAt_5068e 2 (some .char), Cond.methodLink RJ0 492 yJ0_isLatin1_aae02, Cond.instanceMethod yJ0_isLatin1_aae02, Cond.selects RJ0 yJ0_isLatin1_aae02 yJ0_isLatin1_aae02, Cond.code yJ0_isLatin1_aae02 cJ0_isLatin1_aae02 1 (some .boolean), Cond.methodLink RJ0 495 yJ1_charAt_3b067, Cond.static yJ1_charAt_3b067, Cond.initialized RJ1, Cond.code yJ1_charAt_3b067 cJ1_charAt_3b067 2 (some .char), Cond.methodLink RJ1 9 yJ0_checkIndex_df160, Cond.static yJ0_checkIndex_df160, Cond.code yJ0_checkIndex_df160 cJ0_checkIndex_df160 2 none, Cond.fieldLink RJ0 1053 "jdk/internal/util/Preconditions" "SIOOBE_FORMATTER" "Ljava/util/function/BiFunction;", Cond.methodLink RJ0 1059 yJ3_checkIndex_8e157, Cond.static yJ3_checkIndex_8e157, Cond.initialized RJ3, Cond.code yJ3_checkIndex_8e157 cJ3_checkIndex_8e157 3 (some .int), Cond.methodLink RJ0 498 yJ2_charAt_3b067, Cond.static yJ2_charAt_3b067, Cond.initialized RJ2, Cond.code yJ2_charAt_3b067 cJ2_charAt_3b067 2 (some .char), Cond.methodLink RJ2 67 yJ2_checkIndex_2214a, Cond.static yJ2_checkIndex_2214a, Cond.code yJ2_checkIndex_2214a cJ2_checkIndex_2214a 2 none]
def wsX4_isReserved_r3 : List Cond := [Cond.methodLink RJ2 48 yJ2_length_9d52b, Cond.static yJ2_length_9d52b, Cond.code yJ2_length_9d52b cJ2_length_9d52b 1 (some .int), Cond.methodLink RJ2 414 yJ0_checkIndex_df160, Cond.methodLink RJ2 71 yJ2_getChar_3b067, Cond.static yJ2_getChar_3b067, Cond.code yJ2_getChar_3b067 cJ2_getChar_3b067 2 (some .char), Cond.fieldLink RJ2 44 "java/lang/StringUTF16" "$assertionsDisabled" "Z", Cond.fieldLink RJ2 59 "java/lang/StringUTF16" "HI_BYTE_SHIFT" "I", Cond.fieldLink RJ2 63 "java/lang/StringUTF16" "LO_BYTE_SHIFT" "I", Cond.methodLink RX4 36 yX0_at, Cond.instanceMethod yX0_at, Cond.selects RX0 yX0_at yX0_at, Cond.initialized RX0, Cond.code yX0_at cX0_at 2 (some .int), Cond.fieldLink RX0 21 "GainTrees$Bytes" "kept" "I", Cond.fieldLink RX0 15 "GainTrees$Bytes" "data" "[B"]
def wsX4_isReserved : List Cond := .code yX4_isReserved cX4_isReserved 1 (some .boolean) :: ((wsX4_isReserved_r1 ++ (wsX4_isReserved_r2 ++ wsX4_isReserved_r3)) ++ wsX40 ++ wsX00)
def wsX4_takeSign_r1 : List Cond := [Cond.fieldLink RX4 44 "GainTrees$Reader" "kind" "I", Cond.methodLink RX4 95 yX4_fail, Cond.instanceMethod yX4_fail, Cond.selects RX4 yX4_fail yX4_fail, Cond.initialized RX4, Cond.code yX4_fail cX4_fail 2 (some .boolean), Cond.fieldLink RX4 19 "GainTrees$Reader" "fault" "I", Cond.fieldLink RX4 28 "GainTrees$Reader" "from" "I", Cond.fieldLink RX4 9 "GainTrees$Reader" "faultAt" "I", Cond.methodLink RX4 25 yX4_step, Cond.instanceMethod yX4_step, Cond.selects RX4 yX4_step yX4_step, Cond.code yX4_step cX4_step 2 none, Cond.fieldLink RX4 22 "GainTrees$Reader" "to" "I", Cond.fieldLink RX4 15 "GainTrees$Reader" "tape" "LGainTrees$Bytes;", Cond.fieldLink RX4 31 "GainTrees$Bytes" "kept" "I", Cond.methodLink RX4 36 yX0_at, Cond.instanceMethod yX0_at, Cond.selects RX0 yX0_at yX0_at, Cond.initialized RX0, Cond.code yX0_at cX0_at 2 (some .int), Cond.fieldLink RX0 21 "GainTrees$Bytes" "kept" "I", Cond.fieldLink RX0 15 "GainTrees$Bytes" "data" "[B", Cond.methodLink RX4 40 yX4_isBlank]
def wsX4_takeSign_r2 : List Cond := [Cond.static yX4_isBlank, Cond.code yX4_isBlank cX4_isBlank 1 (some .boolean), Cond.methodLink RX4 47 yX4_isLetter, Cond.static yX4_isLetter, Cond.code yX4_isLetter cX4_isLetter 1 (some .boolean), Cond.methodLink RX4 50 yX4_stepWord, Cond.instanceMethod yX4_stepWord, Cond.selects RX4 yX4_stepWord yX4_stepWord, Cond.code yX4_stepWord cX4_stepWord 1 none, Cond.methodLink RX4 53 yX4_isDigit, Cond.static yX4_isDigit, Cond.code yX4_isDigit cX4_isDigit 1 (some .boolean), Cond.methodLink RX4 56 yX4_stepNumber, Cond.instanceMethod yX4_stepNumber, Cond.selects RX4 yX4_stepNumber yX4_stepNumber, Cond.code yX4_stepNumber cX4_stepNumber 5 none, Cond.fieldLink RX4 63 "GainTrees$Reader" "number" "J", Cond.constantLong RX4 67 (10), Cond.constantLong RX4 69 (1000), Cond.methodLink RX4 59 yX4_stepSign, Cond.instanceMethod yX4_stepSign, Cond.selects RX4 yX4_stepSign yX4_stepSign, Cond.code yX4_stepSign cX4_stepSign 4 none]
def wsX4_takeSign : List Cond := .code yX4_takeSign cX4_takeSign 2 (some .boolean) :: ((wsX4_takeSign_r1 ++ wsX4_takeSign_r2) ++ wsX40 ++ wsX00)
def wsX4_takeWord_r1 : List Cond := [Cond.methodLink RX4 83 yX4_isWord, Cond.instanceMethod yX4_isWord, Cond.selects RX4 yX4_isWord yX4_isWord, Cond.initialized RX4, Cond.code yX4_isWord cX4_isWord 3 (some .boolean), Cond.fieldLink RX4 44 "GainTrees$Reader" "kind" "I", Cond.fieldLink RX4 22 "GainTrees$Reader" "to" "I", Cond.fieldLink RX4 28 "GainTrees$Reader" "from" "I", Cond.fieldLink RX4 15 "GainTrees$Reader" "tape" "LGainTrees$Bytes;", Cond.methodLink RX4 71 yJ0_length_8abf5, Cond.instanceMethod yJ0_length_8abf5, Cond.selects RJ0 yJ0_length_8abf5 yJ0_length_8abf5, Cond.initialized RJ0, Cond.code yJ0_length_8abf5 cJ0_length_8abf5 1 (some .int), Cond.fieldLink RJ0 9 "java/lang/String" "value" "[B", Cond.methodLink RJ0 335 yJ0_coder_7d493, Cond.instanceMethod yJ0_coder_7d493, Cond.selects RJ0 yJ0_coder_7d493 yJ0_coder_7d493, Cond.code yJ0_coder_7d493 cJ0_coder_7d493 1 (some .byte), Cond.fieldLink RJ0 38 "java/lang/String" "COMPACT_STRINGS" "Z", Cond.fieldLink RJ0 15 "java/lang/String" "coder" "B", Cond.methodLink RX4 77 yJ0_charAt_5068e, Cond.instanceMethod yJ0_charAt_5068e, Cond.selects RJ0 yJ0_charAt_5068e yJ0_charAt_5068e]
def wsX4_takeWord_r2 : List Cond := [Cond.code yJ0_charAt_5068e cJ0_charAt_5068e 2 (some .char), Cond.methodLink RJ0 492 yJ0_isLatin1_aae02, Cond.instanceMethod yJ0_isLatin1_aae02, Cond.selects RJ0 yJ0_isLatin1_aae02 yJ0_isLatin1_aae02, Cond.code yJ0_isLatin1_aae02 cJ0_isLatin1_aae02 1 (some .boolean), Cond.methodLink RJ0 495 yJ1_charAt_3b067, Cond.static yJ1_charAt_3b067, Cond.initialized RJ1, Cond.code yJ1_charAt_3b067 cJ1_charAt_3b067 2 (some .char), Cond.methodLink RJ1 9 yJ0_checkIndex_df160, Cond.static yJ0_checkIndex_df160, Cond.code yJ0_checkIndex_df160 cJ0_checkIndex_df160 2 none, Cond.fieldLink RJ0 1053 "jdk/internal/util/Preconditions" "SIOOBE_FORMATTER" "Ljava/util/function/BiFunction;", Cond.methodLink RJ0 1059 yJ3_checkIndex_8e157, Cond.static yJ3_checkIndex_8e157, Cond.initialized RJ3, Cond.code yJ3_checkIndex_8e157 cJ3_checkIndex_8e157 3 (some .int), Cond.methodLink RJ0 498 yJ2_charAt_3b067, Cond.static yJ2_charAt_3b067, Cond.initialized RJ2, Cond.code yJ2_charAt_3b067 cJ2_charAt_3b067 2 (some .char), Cond.methodLink RJ2 67 yJ2_checkIndex_2214a, Cond.static yJ2_checkIndex_2214a, Cond.code yJ2_checkIndex_2214a cJ2_checkIndex_2214a 2 none]
def wsX4_takeWord_r3 : List Cond := [Cond.methodLink RJ2 48 yJ2_length_9d52b, Cond.static yJ2_length_9d52b, Cond.code yJ2_length_9d52b cJ2_length_9d52b 1 (some .int), Cond.methodLink RJ2 414 yJ0_checkIndex_df160, Cond.methodLink RJ2 71 yJ2_getChar_3b067, Cond.static yJ2_getChar_3b067, Cond.code yJ2_getChar_3b067 cJ2_getChar_3b067 2 (some .char), Cond.fieldLink RJ2 44 "java/lang/StringUTF16" "$assertionsDisabled" "Z", Cond.fieldLink RJ2 59 "java/lang/StringUTF16" "HI_BYTE_SHIFT" "I", Cond.fieldLink RJ2 63 "java/lang/StringUTF16" "LO_BYTE_SHIFT" "I", Cond.methodLink RX4 36 yX0_at, Cond.instanceMethod yX0_at, Cond.selects RX0 yX0_at yX0_at, Cond.initialized RX0, Cond.code yX0_at cX0_at 2 (some .int), Cond.fieldLink RX0 21 "GainTrees$Bytes" "kept" "I", Cond.fieldLink RX0 15 "GainTrees$Bytes" "data" "[B", Cond.methodLink RX4 95 yX4_fail, Cond.instanceMethod yX4_fail, Cond.selects RX4 yX4_fail yX4_fail, Cond.code yX4_fail cX4_fail 2 (some .boolean), Cond.fieldLink RX4 19 "GainTrees$Reader" "fault" "I", Cond.fieldLink RX4 9 "GainTrees$Reader" "faultAt" "I", Cond.methodLink RX4 25 yX4_step]
def wsX4_takeWord_r4 : List Cond := [Cond.instanceMethod yX4_step, Cond.selects RX4 yX4_step yX4_step, Cond.code yX4_step cX4_step 2 none, Cond.fieldLink RX4 31 "GainTrees$Bytes" "kept" "I", Cond.methodLink RX4 40 yX4_isBlank, Cond.static yX4_isBlank, Cond.code yX4_isBlank cX4_isBlank 1 (some .boolean), Cond.methodLink RX4 47 yX4_isLetter, Cond.static yX4_isLetter, Cond.code yX4_isLetter cX4_isLetter 1 (some .boolean), Cond.methodLink RX4 50 yX4_stepWord, Cond.instanceMethod yX4_stepWord, Cond.selects RX4 yX4_stepWord yX4_stepWord, Cond.code yX4_stepWord cX4_stepWord 1 none, Cond.methodLink RX4 53 yX4_isDigit, Cond.static yX4_isDigit, Cond.code yX4_isDigit cX4_isDigit 1 (some .boolean), Cond.methodLink RX4 56 yX4_stepNumber, Cond.instanceMethod yX4_stepNumber, Cond.selects RX4 yX4_stepNumber yX4_stepNumber, Cond.code yX4_stepNumber cX4_stepNumber 5 none, Cond.fieldLink RX4 63 "GainTrees$Reader" "number" "J", Cond.constantLong RX4 67 (10), Cond.constantLong RX4 69 (1000)]
def wsX4_takeWord_r5 : List Cond := [Cond.methodLink RX4 59 yX4_stepSign, Cond.instanceMethod yX4_stepSign, Cond.selects RX4 yX4_stepSign yX4_stepSign, Cond.code yX4_stepSign cX4_stepSign 4 none]
def wsX4_takeWord : List Cond := .code yX4_takeWord cX4_takeWord 2 (some .boolean) :: ((wsX4_takeWord_r1 ++ (wsX4_takeWord_r2 ++ (wsX4_takeWord_r3 ++ (wsX4_takeWord_r4 ++ wsX4_takeWord_r5)))) ++ wsX40 ++ wsX00)
def wsX4_readName_r1 : List Cond := [Cond.fieldLink RX4 44 "GainTrees$Reader" "kind" "I", Cond.fieldLink RX4 15 "GainTrees$Reader" "tape" "LGainTrees$Bytes;", Cond.fieldLink RX4 28 "GainTrees$Reader" "from" "I", Cond.fieldLink RX4 22 "GainTrees$Reader" "to" "I", Cond.methodLink RX4 95 yX4_fail, Cond.instanceMethod yX4_fail, Cond.selects RX4 yX4_fail yX4_fail, Cond.initialized RX4, Cond.code yX4_fail cX4_fail 2 (some .boolean), Cond.fieldLink RX4 19 "GainTrees$Reader" "fault" "I", Cond.fieldLink RX4 9 "GainTrees$Reader" "faultAt" "I", Cond.methodLink RX4 143 yX4_isReserved, Cond.instanceMethod yX4_isReserved, Cond.selects RX4 yX4_isReserved yX4_isReserved, Cond.code yX4_isReserved cX4_isReserved 1 (some .boolean), Cond.methodLink RX4 83 yX4_isWord, Cond.instanceMethod yX4_isWord, Cond.selects RX4 yX4_isWord yX4_isWord, Cond.code yX4_isWord cX4_isWord 3 (some .boolean), Cond.methodLink RX4 71 yJ0_length_8abf5, Cond.instanceMethod yJ0_length_8abf5, Cond.selects RJ0 yJ0_length_8abf5 yJ0_length_8abf5, Cond.initialized RJ0, Cond.code yJ0_length_8abf5 cJ0_length_8abf5 1 (some .int)]
def wsX4_readName_r2 : List Cond := [Cond.fieldLink RJ0 9 "java/lang/String" "value" "[B", Cond.methodLink RJ0 335 yJ0_coder_7d493, Cond.instanceMethod yJ0_coder_7d493, Cond.selects RJ0 yJ0_coder_7d493 yJ0_coder_7d493, Cond.code yJ0_coder_7d493 cJ0_coder_7d493 1 (some .byte), Cond.fieldLink RJ0 38 "java/lang/String" "COMPACT_STRINGS" "Z", Cond.fieldLink RJ0 15 "java/lang/String" "coder" "B", Cond.methodLink RX4 77 yJ0_charAt_5068e, Cond.instanceMethod yJ0_charAt_5068e, Cond.selects RJ0 yJ0_charAt_5068e yJ0_charAt_5068e, Cond.code yJ0_charAt_5068e cJ0_charAt_5068e 2 (some .char), Cond.methodLink RJ0 492 yJ0_isLatin1_aae02, Cond.instanceMethod yJ0_isLatin1_aae02, Cond.selects RJ0 yJ0_isLatin1_aae02 yJ0_isLatin1_aae02, Cond.code yJ0_isLatin1_aae02 cJ0_isLatin1_aae02 1 (some .boolean), Cond.methodLink RJ0 495 yJ1_charAt_3b067, Cond.static yJ1_charAt_3b067, Cond.initialized RJ1, Cond.code yJ1_charAt_3b067 cJ1_charAt_3b067 2 (some .char), Cond.methodLink RJ1 9 yJ0_checkIndex_df160, Cond.static yJ0_checkIndex_df160, Cond.code yJ0_checkIndex_df160 cJ0_checkIndex_df160 2 none, Cond.fieldLink RJ0 1053 "jdk/internal/util/Preconditions" "SIOOBE_FORMATTER" "Ljava/util/function/BiFunction;", Cond.methodLink RJ0 1059 yJ3_checkIndex_8e157]
def wsX4_readName_r3 : List Cond := [Cond.static yJ3_checkIndex_8e157, Cond.initialized RJ3, Cond.code yJ3_checkIndex_8e157 cJ3_checkIndex_8e157 3 (some .int), Cond.methodLink RJ0 498 yJ2_charAt_3b067, Cond.static yJ2_charAt_3b067, Cond.initialized RJ2, Cond.code yJ2_charAt_3b067 cJ2_charAt_3b067 2 (some .char), Cond.methodLink RJ2 67 yJ2_checkIndex_2214a, Cond.static yJ2_checkIndex_2214a, Cond.code yJ2_checkIndex_2214a cJ2_checkIndex_2214a 2 none, Cond.methodLink RJ2 48 yJ2_length_9d52b, Cond.static yJ2_length_9d52b, Cond.code yJ2_length_9d52b cJ2_length_9d52b 1 (some .int), Cond.methodLink RJ2 414 yJ0_checkIndex_df160, Cond.methodLink RJ2 71 yJ2_getChar_3b067, Cond.static yJ2_getChar_3b067, Cond.code yJ2_getChar_3b067 cJ2_getChar_3b067 2 (some .char), Cond.fieldLink RJ2 44 "java/lang/StringUTF16" "$assertionsDisabled" "Z", Cond.fieldLink RJ2 59 "java/lang/StringUTF16" "HI_BYTE_SHIFT" "I", Cond.fieldLink RJ2 63 "java/lang/StringUTF16" "LO_BYTE_SHIFT" "I", Cond.methodLink RX4 36 yX0_at, Cond.instanceMethod yX0_at, Cond.selects RX0 yX0_at yX0_at, Cond.initialized RX0]
def wsX4_readName_r4 : List Cond := [Cond.code yX0_at cX0_at 2 (some .int), Cond.fieldLink RX0 21 "GainTrees$Bytes" "kept" "I", Cond.fieldLink RX0 15 "GainTrees$Bytes" "data" "[B", Cond.methodLink RX4 147 yX2_seek, Cond.instanceMethod yX2_seek, Cond.selects RX2 yX2_seek yX2_seek, Cond.initialized RX2, Cond.code yX2_seek cX2_seek 7 (some .int), Cond.methodLink RX2 35 yX2_holds, Cond.instanceMethod yX2_holds, Cond.selects RX2 yX2_holds yX2_holds, Cond.code yX2_holds cX2_holds 6 (some .boolean), Cond.methodLink RX2 39 yX2_lengthOf, Cond.instanceMethod yX2_lengthOf, Cond.selects RX2 yX2_lengthOf yX2_lengthOf, Cond.code yX2_lengthOf cX2_lengthOf 2 (some .int), Cond.fieldLink RX2 15 "GainTrees$Names" "lengths" "[I", Cond.methodLink RX2 42 yX2_letterOf, Cond.instanceMethod yX2_letterOf, Cond.selects RX2 yX2_letterOf yX2_letterOf, Cond.code yX2_letterOf cX2_letterOf 3 (some .int), Cond.fieldLink RX2 11 "GainTrees$Names" "letters" "[B", Cond.methodLink RX2 29 yX0_at, Cond.methodLink RX4 151 yX2_put]
def wsX4_readName_r5 : List Cond := [Cond.instanceMethod yX2_put, Cond.selects RX2 yX2_put yX2_put, Cond.code yX2_put cX2_put 7 none, Cond.methodLink RX4 25 yX4_step, Cond.instanceMethod yX4_step, Cond.selects RX4 yX4_step yX4_step, Cond.code yX4_step cX4_step 2 none, Cond.fieldLink RX4 31 "GainTrees$Bytes" "kept" "I", Cond.methodLink RX4 40 yX4_isBlank, Cond.static yX4_isBlank, Cond.code yX4_isBlank cX4_isBlank 1 (some .boolean), Cond.methodLink RX4 47 yX4_isLetter, Cond.static yX4_isLetter, Cond.code yX4_isLetter cX4_isLetter 1 (some .boolean), Cond.methodLink RX4 50 yX4_stepWord, Cond.instanceMethod yX4_stepWord, Cond.selects RX4 yX4_stepWord yX4_stepWord, Cond.code yX4_stepWord cX4_stepWord 1 none, Cond.methodLink RX4 53 yX4_isDigit, Cond.static yX4_isDigit, Cond.code yX4_isDigit cX4_isDigit 1 (some .boolean), Cond.methodLink RX4 56 yX4_stepNumber, Cond.instanceMethod yX4_stepNumber, Cond.selects RX4 yX4_stepNumber yX4_stepNumber]
def wsX4_readName_r6 : List Cond := [Cond.code yX4_stepNumber cX4_stepNumber 5 none, Cond.fieldLink RX4 63 "GainTrees$Reader" "number" "J", Cond.constantLong RX4 67 (10), Cond.constantLong RX4 69 (1000), Cond.methodLink RX4 59 yX4_stepSign, Cond.instanceMethod yX4_stepSign, Cond.selects RX4 yX4_stepSign yX4_stepSign, Cond.code yX4_stepSign cX4_stepSign 4 none]
def wsX4_readName : List Cond := .code yX4_readName cX4_readName 5 (some .boolean) :: ((wsX4_readName_r1 ++ (wsX4_readName_r2 ++ (wsX4_readName_r3 ++ (wsX4_readName_r4 ++ (wsX4_readName_r5 ++ wsX4_readName_r6))))) ++ wsX40 ++ wsX00 ++ wsX20)
def wsX4_readList_r1 : List Cond := [Cond.fieldLink RX4 44 "GainTrees$Reader" "kind" "I", Cond.methodLink RX4 122 yX4_readName, Cond.instanceMethod yX4_readName, Cond.selects RX4 yX4_readName yX4_readName, Cond.initialized RX4, Cond.code yX4_readName cX4_readName 5 (some .boolean), Cond.fieldLink RX4 15 "GainTrees$Reader" "tape" "LGainTrees$Bytes;", Cond.fieldLink RX4 28 "GainTrees$Reader" "from" "I", Cond.fieldLink RX4 22 "GainTrees$Reader" "to" "I", Cond.methodLink RX4 95 yX4_fail, Cond.instanceMethod yX4_fail, Cond.selects RX4 yX4_fail yX4_fail, Cond.code yX4_fail cX4_fail 2 (some .boolean), Cond.fieldLink RX4 19 "GainTrees$Reader" "fault" "I", Cond.fieldLink RX4 9 "GainTrees$Reader" "faultAt" "I", Cond.methodLink RX4 143 yX4_isReserved, Cond.instanceMethod yX4_isReserved, Cond.selects RX4 yX4_isReserved yX4_isReserved, Cond.code yX4_isReserved cX4_isReserved 1 (some .boolean), Cond.methodLink RX4 83 yX4_isWord, Cond.instanceMethod yX4_isWord, Cond.selects RX4 yX4_isWord yX4_isWord, Cond.code yX4_isWord cX4_isWord 3 (some .boolean), Cond.methodLink RX4 71 yJ0_length_8abf5]
def wsX4_readList_r2 : List Cond := [Cond.instanceMethod yJ0_length_8abf5, Cond.selects RJ0 yJ0_length_8abf5 yJ0_length_8abf5, Cond.initialized RJ0, Cond.code yJ0_length_8abf5 cJ0_length_8abf5 1 (some .int), Cond.fieldLink RJ0 9 "java/lang/String" "value" "[B", Cond.methodLink RJ0 335 yJ0_coder_7d493, Cond.instanceMethod yJ0_coder_7d493, Cond.selects RJ0 yJ0_coder_7d493 yJ0_coder_7d493, Cond.code yJ0_coder_7d493 cJ0_coder_7d493 1 (some .byte), Cond.fieldLink RJ0 38 "java/lang/String" "COMPACT_STRINGS" "Z", Cond.fieldLink RJ0 15 "java/lang/String" "coder" "B", Cond.methodLink RX4 77 yJ0_charAt_5068e, Cond.instanceMethod yJ0_charAt_5068e, Cond.selects RJ0 yJ0_charAt_5068e yJ0_charAt_5068e, Cond.code yJ0_charAt_5068e cJ0_charAt_5068e 2 (some .char), Cond.methodLink RJ0 492 yJ0_isLatin1_aae02, Cond.instanceMethod yJ0_isLatin1_aae02, Cond.selects RJ0 yJ0_isLatin1_aae02 yJ0_isLatin1_aae02, Cond.code yJ0_isLatin1_aae02 cJ0_isLatin1_aae02 1 (some .boolean), Cond.methodLink RJ0 495 yJ1_charAt_3b067, Cond.static yJ1_charAt_3b067, Cond.initialized RJ1, Cond.code yJ1_charAt_3b067 cJ1_charAt_3b067 2 (some .char), Cond.methodLink RJ1 9 yJ0_checkIndex_df160]
def wsX4_readList_r3 : List Cond := [Cond.static yJ0_checkIndex_df160, Cond.code yJ0_checkIndex_df160 cJ0_checkIndex_df160 2 none, Cond.fieldLink RJ0 1053 "jdk/internal/util/Preconditions" "SIOOBE_FORMATTER" "Ljava/util/function/BiFunction;", Cond.methodLink RJ0 1059 yJ3_checkIndex_8e157, Cond.static yJ3_checkIndex_8e157, Cond.initialized RJ3, Cond.code yJ3_checkIndex_8e157 cJ3_checkIndex_8e157 3 (some .int), Cond.methodLink RJ0 498 yJ2_charAt_3b067, Cond.static yJ2_charAt_3b067, Cond.initialized RJ2, Cond.code yJ2_charAt_3b067 cJ2_charAt_3b067 2 (some .char), Cond.methodLink RJ2 67 yJ2_checkIndex_2214a, Cond.static yJ2_checkIndex_2214a, Cond.code yJ2_checkIndex_2214a cJ2_checkIndex_2214a 2 none, Cond.methodLink RJ2 48 yJ2_length_9d52b, Cond.static yJ2_length_9d52b, Cond.code yJ2_length_9d52b cJ2_length_9d52b 1 (some .int), Cond.methodLink RJ2 414 yJ0_checkIndex_df160, Cond.methodLink RJ2 71 yJ2_getChar_3b067, Cond.static yJ2_getChar_3b067, Cond.code yJ2_getChar_3b067 cJ2_getChar_3b067 2 (some .char), Cond.fieldLink RJ2 44 "java/lang/StringUTF16" "$assertionsDisabled" "Z", Cond.fieldLink RJ2 59 "java/lang/StringUTF16" "HI_BYTE_SHIFT" "I", Cond.fieldLink RJ2 63 "java/lang/StringUTF16" "LO_BYTE_SHIFT" "I"]
def wsX4_readList_r4 : List Cond := [Cond.methodLink RX4 36 yX0_at, Cond.instanceMethod yX0_at, Cond.selects RX0 yX0_at yX0_at, Cond.initialized RX0, Cond.code yX0_at cX0_at 2 (some .int), Cond.fieldLink RX0 21 "GainTrees$Bytes" "kept" "I", Cond.fieldLink RX0 15 "GainTrees$Bytes" "data" "[B", Cond.methodLink RX4 147 yX2_seek, Cond.instanceMethod yX2_seek, Cond.selects RX2 yX2_seek yX2_seek, Cond.initialized RX2, Cond.code yX2_seek cX2_seek 7 (some .int), Cond.methodLink RX2 35 yX2_holds, Cond.instanceMethod yX2_holds, Cond.selects RX2 yX2_holds yX2_holds, Cond.code yX2_holds cX2_holds 6 (some .boolean), Cond.methodLink RX2 39 yX2_lengthOf, Cond.instanceMethod yX2_lengthOf, Cond.selects RX2 yX2_lengthOf yX2_lengthOf, Cond.code yX2_lengthOf cX2_lengthOf 2 (some .int), Cond.fieldLink RX2 15 "GainTrees$Names" "lengths" "[I", Cond.methodLink RX2 42 yX2_letterOf, Cond.instanceMethod yX2_letterOf, Cond.selects RX2 yX2_letterOf yX2_letterOf]
def wsX4_readList_r5 : List Cond := [Cond.code yX2_letterOf cX2_letterOf 3 (some .int), Cond.fieldLink RX2 11 "GainTrees$Names" "letters" "[B", Cond.methodLink RX2 29 yX0_at, Cond.methodLink RX4 151 yX2_put, Cond.instanceMethod yX2_put, Cond.selects RX2 yX2_put yX2_put, Cond.code yX2_put cX2_put 7 none, Cond.methodLink RX4 25 yX4_step, Cond.instanceMethod yX4_step, Cond.selects RX4 yX4_step yX4_step, Cond.code yX4_step cX4_step 2 none, Cond.fieldLink RX4 31 "GainTrees$Bytes" "kept" "I", Cond.methodLink RX4 40 yX4_isBlank, Cond.static yX4_isBlank, Cond.code yX4_isBlank cX4_isBlank 1 (some .boolean), Cond.methodLink RX4 47 yX4_isLetter, Cond.static yX4_isLetter, Cond.code yX4_isLetter cX4_isLetter 1 (some .boolean), Cond.methodLink RX4 50 yX4_stepWord, Cond.instanceMethod yX4_stepWord, Cond.selects RX4 yX4_stepWord yX4_stepWord, Cond.code yX4_stepWord cX4_stepWord 1 none, Cond.methodLink RX4 53 yX4_isDigit, Cond.static yX4_isDigit]
def wsX4_readList_r6 : List Cond := [Cond.code yX4_isDigit cX4_isDigit 1 (some .boolean), Cond.methodLink RX4 56 yX4_stepNumber, Cond.instanceMethod yX4_stepNumber, Cond.selects RX4 yX4_stepNumber yX4_stepNumber, Cond.code yX4_stepNumber cX4_stepNumber 5 none, Cond.fieldLink RX4 63 "GainTrees$Reader" "number" "J", Cond.constantLong RX4 67 (10), Cond.constantLong RX4 69 (1000), Cond.methodLink RX4 59 yX4_stepSign, Cond.instanceMethod yX4_stepSign, Cond.selects RX4 yX4_stepSign yX4_stepSign, Cond.code yX4_stepSign cX4_stepSign 4 none, Cond.methodLink RX4 129 yX4_takeSign, Cond.instanceMethod yX4_takeSign, Cond.selects RX4 yX4_takeSign yX4_takeSign, Cond.code yX4_takeSign cX4_takeSign 2 (some .boolean)]
def wsX4_readList : List Cond := .code yX4_readList cX4_readList 5 (some .int) :: ((wsX4_readList_r1 ++ (wsX4_readList_r2 ++ (wsX4_readList_r3 ++ (wsX4_readList_r4 ++ (wsX4_readList_r5 ++ wsX4_readList_r6))))) ++ wsX40 ++ wsX00 ++ wsX20)
def wsX4_readAttribute_r1 : List Cond := [Cond.methodLink RX4 119 yX2_attributeSlot, Cond.static yX2_attributeSlot, Cond.initialized RX2, Cond.code yX2_attributeSlot cX2_attributeSlot 1 (some .int), Cond.methodLink RX4 122 yX4_readName, Cond.instanceMethod yX4_readName, Cond.selects RX4 yX4_readName yX4_readName, Cond.initialized RX4, Cond.code yX4_readName cX4_readName 5 (some .boolean), Cond.fieldLink RX4 44 "GainTrees$Reader" "kind" "I", Cond.fieldLink RX4 15 "GainTrees$Reader" "tape" "LGainTrees$Bytes;", Cond.fieldLink RX4 28 "GainTrees$Reader" "from" "I", Cond.fieldLink RX4 22 "GainTrees$Reader" "to" "I", Cond.methodLink RX4 95 yX4_fail, Cond.instanceMethod yX4_fail, Cond.selects RX4 yX4_fail yX4_fail, Cond.code yX4_fail cX4_fail 2 (some .boolean), Cond.fieldLink RX4 19 "GainTrees$Reader" "fault" "I", Cond.fieldLink RX4 9 "GainTrees$Reader" "faultAt" "I", Cond.methodLink RX4 143 yX4_isReserved, Cond.instanceMethod yX4_isReserved, Cond.selects RX4 yX4_isReserved yX4_isReserved, Cond.code yX4_isReserved cX4_isReserved 1 (some .boolean), Cond.methodLink RX4 83 yX4_isWord]
def wsX4_readAttribute_r2 : List Cond := [Cond.instanceMethod yX4_isWord, Cond.selects RX4 yX4_isWord yX4_isWord, Cond.code yX4_isWord cX4_isWord 3 (some .boolean), Cond.methodLink RX4 71 yJ0_length_8abf5, Cond.instanceMethod yJ0_length_8abf5, Cond.selects RJ0 yJ0_length_8abf5 yJ0_length_8abf5, Cond.initialized RJ0, Cond.code yJ0_length_8abf5 cJ0_length_8abf5 1 (some .int), Cond.fieldLink RJ0 9 "java/lang/String" "value" "[B", Cond.methodLink RJ0 335 yJ0_coder_7d493, Cond.instanceMethod yJ0_coder_7d493, Cond.selects RJ0 yJ0_coder_7d493 yJ0_coder_7d493, Cond.code yJ0_coder_7d493 cJ0_coder_7d493 1 (some .byte), Cond.fieldLink RJ0 38 "java/lang/String" "COMPACT_STRINGS" "Z", Cond.fieldLink RJ0 15 "java/lang/String" "coder" "B", Cond.methodLink RX4 77 yJ0_charAt_5068e, Cond.instanceMethod yJ0_charAt_5068e, Cond.selects RJ0 yJ0_charAt_5068e yJ0_charAt_5068e, Cond.code yJ0_charAt_5068e cJ0_charAt_5068e 2 (some .char), Cond.methodLink RJ0 492 yJ0_isLatin1_aae02, Cond.instanceMethod yJ0_isLatin1_aae02, Cond.selects RJ0 yJ0_isLatin1_aae02 yJ0_isLatin1_aae02, Cond.code yJ0_isLatin1_aae02 cJ0_isLatin1_aae02 1 (some .boolean), Cond.methodLink RJ0 495 yJ1_charAt_3b067]
def wsX4_readAttribute_r3 : List Cond := [Cond.static yJ1_charAt_3b067, Cond.initialized RJ1, Cond.code yJ1_charAt_3b067 cJ1_charAt_3b067 2 (some .char), Cond.methodLink RJ1 9 yJ0_checkIndex_df160, Cond.static yJ0_checkIndex_df160, Cond.code yJ0_checkIndex_df160 cJ0_checkIndex_df160 2 none, Cond.fieldLink RJ0 1053 "jdk/internal/util/Preconditions" "SIOOBE_FORMATTER" "Ljava/util/function/BiFunction;", Cond.methodLink RJ0 1059 yJ3_checkIndex_8e157, Cond.static yJ3_checkIndex_8e157, Cond.initialized RJ3, Cond.code yJ3_checkIndex_8e157 cJ3_checkIndex_8e157 3 (some .int), Cond.methodLink RJ0 498 yJ2_charAt_3b067, Cond.static yJ2_charAt_3b067, Cond.initialized RJ2, Cond.code yJ2_charAt_3b067 cJ2_charAt_3b067 2 (some .char), Cond.methodLink RJ2 67 yJ2_checkIndex_2214a, Cond.static yJ2_checkIndex_2214a, Cond.code yJ2_checkIndex_2214a cJ2_checkIndex_2214a 2 none, Cond.methodLink RJ2 48 yJ2_length_9d52b, Cond.static yJ2_length_9d52b, Cond.code yJ2_length_9d52b cJ2_length_9d52b 1 (some .int), Cond.methodLink RJ2 414 yJ0_checkIndex_df160, Cond.methodLink RJ2 71 yJ2_getChar_3b067, Cond.static yJ2_getChar_3b067]
def wsX4_readAttribute_r4 : List Cond := [Cond.code yJ2_getChar_3b067 cJ2_getChar_3b067 2 (some .char), Cond.fieldLink RJ2 44 "java/lang/StringUTF16" "$assertionsDisabled" "Z", Cond.fieldLink RJ2 59 "java/lang/StringUTF16" "HI_BYTE_SHIFT" "I", Cond.fieldLink RJ2 63 "java/lang/StringUTF16" "LO_BYTE_SHIFT" "I", Cond.methodLink RX4 36 yX0_at, Cond.instanceMethod yX0_at, Cond.selects RX0 yX0_at yX0_at, Cond.initialized RX0, Cond.code yX0_at cX0_at 2 (some .int), Cond.fieldLink RX0 21 "GainTrees$Bytes" "kept" "I", Cond.fieldLink RX0 15 "GainTrees$Bytes" "data" "[B", Cond.methodLink RX4 147 yX2_seek, Cond.instanceMethod yX2_seek, Cond.selects RX2 yX2_seek yX2_seek, Cond.code yX2_seek cX2_seek 7 (some .int), Cond.methodLink RX2 35 yX2_holds, Cond.instanceMethod yX2_holds, Cond.selects RX2 yX2_holds yX2_holds, Cond.code yX2_holds cX2_holds 6 (some .boolean), Cond.methodLink RX2 39 yX2_lengthOf, Cond.instanceMethod yX2_lengthOf, Cond.selects RX2 yX2_lengthOf yX2_lengthOf, Cond.code yX2_lengthOf cX2_lengthOf 2 (some .int), Cond.fieldLink RX2 15 "GainTrees$Names" "lengths" "[I"]
def wsX4_readAttribute_r5 : List Cond := [Cond.methodLink RX2 42 yX2_letterOf, Cond.instanceMethod yX2_letterOf, Cond.selects RX2 yX2_letterOf yX2_letterOf, Cond.code yX2_letterOf cX2_letterOf 3 (some .int), Cond.fieldLink RX2 11 "GainTrees$Names" "letters" "[B", Cond.methodLink RX2 29 yX0_at, Cond.methodLink RX4 151 yX2_put, Cond.instanceMethod yX2_put, Cond.selects RX2 yX2_put yX2_put, Cond.code yX2_put cX2_put 7 none, Cond.methodLink RX4 25 yX4_step, Cond.instanceMethod yX4_step, Cond.selects RX4 yX4_step yX4_step, Cond.code yX4_step cX4_step 2 none, Cond.fieldLink RX4 31 "GainTrees$Bytes" "kept" "I", Cond.methodLink RX4 40 yX4_isBlank, Cond.static yX4_isBlank, Cond.code yX4_isBlank cX4_isBlank 1 (some .boolean), Cond.methodLink RX4 47 yX4_isLetter, Cond.static yX4_isLetter, Cond.code yX4_isLetter cX4_isLetter 1 (some .boolean), Cond.methodLink RX4 50 yX4_stepWord, Cond.instanceMethod yX4_stepWord, Cond.selects RX4 yX4_stepWord yX4_stepWord]
def wsX4_readAttribute_r6 : List Cond := [Cond.code yX4_stepWord cX4_stepWord 1 none, Cond.methodLink RX4 53 yX4_isDigit, Cond.static yX4_isDigit, Cond.code yX4_isDigit cX4_isDigit 1 (some .boolean), Cond.methodLink RX4 56 yX4_stepNumber, Cond.instanceMethod yX4_stepNumber, Cond.selects RX4 yX4_stepNumber yX4_stepNumber, Cond.code yX4_stepNumber cX4_stepNumber 5 none, Cond.fieldLink RX4 63 "GainTrees$Reader" "number" "J", Cond.constantLong RX4 67 (10), Cond.constantLong RX4 69 (1000), Cond.methodLink RX4 59 yX4_stepSign, Cond.instanceMethod yX4_stepSign, Cond.selects RX4 yX4_stepSign yX4_stepSign, Cond.code yX4_stepSign cX4_stepSign 4 none, Cond.methodLink RX4 126 yX2_addAttribute, Cond.instanceMethod yX2_addAttribute, Cond.selects RX2 yX2_addAttribute yX2_addAttribute, Cond.code yX2_addAttribute cX2_addAttribute 1 none, Cond.fieldLink RX2 26 "GainTrees$Names" "attributes" "I", Cond.fieldLink RX2 19 "GainTrees$Names" "values" "[I", Cond.methodLink RX4 129 yX4_takeSign, Cond.instanceMethod yX4_takeSign, Cond.selects RX4 yX4_takeSign yX4_takeSign]
def wsX4_readAttribute_r7 : List Cond := [Cond.code yX4_takeSign cX4_takeSign 2 (some .boolean), Cond.methodLink RX4 132 yX2_valueSlot, Cond.static yX2_valueSlot, Cond.code yX2_valueSlot cX2_valueSlot 2 (some .int), Cond.methodLink RX4 109 yX4_readList, Cond.instanceMethod yX4_readList, Cond.selects RX4 yX4_readList yX4_readList, Cond.code yX4_readList cX4_readList 5 (some .int), Cond.methodLink RX4 136 yX2_setValues, Cond.instanceMethod yX2_setValues, Cond.selects RX2 yX2_setValues yX2_setValues, Cond.code yX2_setValues cX2_setValues 3 none, Cond.methodLink RX4 140 yX2_valuesOf, Cond.instanceMethod yX2_valuesOf, Cond.selects RX2 yX2_valuesOf yX2_valuesOf, Cond.code yX2_valuesOf cX2_valuesOf 2 (some .int)]
def wsX4_readAttribute : List Cond := .code yX4_readAttribute cX4_readAttribute 3 (some .boolean) :: ((wsX4_readAttribute_r1 ++ (wsX4_readAttribute_r2 ++ (wsX4_readAttribute_r3 ++ (wsX4_readAttribute_r4 ++ (wsX4_readAttribute_r5 ++ (wsX4_readAttribute_r6 ++ wsX4_readAttribute_r7)))))) ++ wsX40 ++ wsX00 ++ wsX20)
def wsX4_readNames_r1 : List Cond := [Cond.fieldLink RX4 113 "GainTrees$Names" "classes" "I", Cond.fieldLink RX4 44 "GainTrees$Reader" "kind" "I", Cond.methodLink RX4 98 yX4_begin, Cond.instanceMethod yX4_begin, Cond.selects RX4 yX4_begin yX4_begin, Cond.initialized RX4, Cond.code yX4_begin cX4_begin 1 none, Cond.fieldLink RX4 19 "GainTrees$Reader" "fault" "I", Cond.fieldLink RX4 9 "GainTrees$Reader" "faultAt" "I", Cond.fieldLink RX4 22 "GainTrees$Reader" "to" "I", Cond.methodLink RX4 25 yX4_step, Cond.instanceMethod yX4_step, Cond.selects RX4 yX4_step yX4_step, Cond.code yX4_step cX4_step 2 none, Cond.fieldLink RX4 15 "GainTrees$Reader" "tape" "LGainTrees$Bytes;", Cond.fieldLink RX4 31 "GainTrees$Bytes" "kept" "I", Cond.fieldLink RX4 28 "GainTrees$Reader" "from" "I", Cond.methodLink RX4 36 yX0_at, Cond.instanceMethod yX0_at, Cond.selects RX0 yX0_at yX0_at, Cond.initialized RX0, Cond.code yX0_at cX0_at 2 (some .int), Cond.fieldLink RX0 21 "GainTrees$Bytes" "kept" "I", Cond.fieldLink RX0 15 "GainTrees$Bytes" "data" "[B"]
def wsX4_readNames_r2 : List Cond := [Cond.methodLink RX4 40 yX4_isBlank, Cond.static yX4_isBlank, Cond.code yX4_isBlank cX4_isBlank 1 (some .boolean), Cond.methodLink RX4 47 yX4_isLetter, Cond.static yX4_isLetter, Cond.code yX4_isLetter cX4_isLetter 1 (some .boolean), Cond.methodLink RX4 50 yX4_stepWord, Cond.instanceMethod yX4_stepWord, Cond.selects RX4 yX4_stepWord yX4_stepWord, Cond.code yX4_stepWord cX4_stepWord 1 none, Cond.methodLink RX4 53 yX4_isDigit, Cond.static yX4_isDigit, Cond.code yX4_isDigit cX4_isDigit 1 (some .boolean), Cond.methodLink RX4 56 yX4_stepNumber, Cond.instanceMethod yX4_stepNumber, Cond.selects RX4 yX4_stepNumber yX4_stepNumber, Cond.code yX4_stepNumber cX4_stepNumber 5 none, Cond.fieldLink RX4 63 "GainTrees$Reader" "number" "J", Cond.constantLong RX4 67 (10), Cond.constantLong RX4 69 (1000), Cond.methodLink RX4 59 yX4_stepSign, Cond.instanceMethod yX4_stepSign, Cond.selects RX4 yX4_stepSign yX4_stepSign, Cond.code yX4_stepSign cX4_stepSign 4 none]
def wsX4_readNames_r3 : List Cond := [Cond.methodLink RX4 101 yX2_wipe, Cond.instanceMethod yX2_wipe, Cond.selects RX2 yX2_wipe yX2_wipe, Cond.initialized RX2, Cond.code yX2_wipe cX2_wipe 1 none, Cond.fieldLink RX2 22 "GainTrees$Names" "classes" "I", Cond.fieldLink RX2 26 "GainTrees$Names" "attributes" "I", Cond.methodLink RX4 106 yX4_takeWord, Cond.instanceMethod yX4_takeWord, Cond.selects RX4 yX4_takeWord yX4_takeWord, Cond.code yX4_takeWord cX4_takeWord 2 (some .boolean), Cond.methodLink RX4 83 yX4_isWord, Cond.instanceMethod yX4_isWord, Cond.selects RX4 yX4_isWord yX4_isWord, Cond.code yX4_isWord cX4_isWord 3 (some .boolean), Cond.methodLink RX4 71 yJ0_length_8abf5, Cond.instanceMethod yJ0_length_8abf5, Cond.selects RJ0 yJ0_length_8abf5 yJ0_length_8abf5, Cond.initialized RJ0, Cond.code yJ0_length_8abf5 cJ0_length_8abf5 1 (some .int), Cond.fieldLink RJ0 9 "java/lang/String" "value" "[B", Cond.methodLink RJ0 335 yJ0_coder_7d493, Cond.instanceMethod yJ0_coder_7d493, Cond.selects RJ0 yJ0_coder_7d493 yJ0_coder_7d493]
def wsX4_readNames_r4 : List Cond := [Cond.code yJ0_coder_7d493 cJ0_coder_7d493 1 (some .byte), Cond.fieldLink RJ0 38 "java/lang/String" "COMPACT_STRINGS" "Z", Cond.fieldLink RJ0 15 "java/lang/String" "coder" "B", Cond.methodLink RX4 77 yJ0_charAt_5068e, Cond.instanceMethod yJ0_charAt_5068e, Cond.selects RJ0 yJ0_charAt_5068e yJ0_charAt_5068e, Cond.code yJ0_charAt_5068e cJ0_charAt_5068e 2 (some .char), Cond.methodLink RJ0 492 yJ0_isLatin1_aae02, Cond.instanceMethod yJ0_isLatin1_aae02, Cond.selects RJ0 yJ0_isLatin1_aae02 yJ0_isLatin1_aae02, Cond.code yJ0_isLatin1_aae02 cJ0_isLatin1_aae02 1 (some .boolean), Cond.methodLink RJ0 495 yJ1_charAt_3b067, Cond.static yJ1_charAt_3b067, Cond.initialized RJ1, Cond.code yJ1_charAt_3b067 cJ1_charAt_3b067 2 (some .char), Cond.methodLink RJ1 9 yJ0_checkIndex_df160, Cond.static yJ0_checkIndex_df160, Cond.code yJ0_checkIndex_df160 cJ0_checkIndex_df160 2 none, Cond.fieldLink RJ0 1053 "jdk/internal/util/Preconditions" "SIOOBE_FORMATTER" "Ljava/util/function/BiFunction;", Cond.methodLink RJ0 1059 yJ3_checkIndex_8e157, Cond.static yJ3_checkIndex_8e157, Cond.initialized RJ3, Cond.code yJ3_checkIndex_8e157 cJ3_checkIndex_8e157 3 (some .int), Cond.methodLink RJ0 498 yJ2_charAt_3b067]
def wsX4_readNames_r5 : List Cond := [Cond.static yJ2_charAt_3b067, Cond.initialized RJ2, Cond.code yJ2_charAt_3b067 cJ2_charAt_3b067 2 (some .char), Cond.methodLink RJ2 67 yJ2_checkIndex_2214a, Cond.static yJ2_checkIndex_2214a, Cond.code yJ2_checkIndex_2214a cJ2_checkIndex_2214a 2 none, Cond.methodLink RJ2 48 yJ2_length_9d52b, Cond.static yJ2_length_9d52b, Cond.code yJ2_length_9d52b cJ2_length_9d52b 1 (some .int), Cond.methodLink RJ2 414 yJ0_checkIndex_df160, Cond.methodLink RJ2 71 yJ2_getChar_3b067, Cond.static yJ2_getChar_3b067, Cond.code yJ2_getChar_3b067 cJ2_getChar_3b067 2 (some .char), Cond.fieldLink RJ2 44 "java/lang/StringUTF16" "$assertionsDisabled" "Z", Cond.fieldLink RJ2 59 "java/lang/StringUTF16" "HI_BYTE_SHIFT" "I", Cond.fieldLink RJ2 63 "java/lang/StringUTF16" "LO_BYTE_SHIFT" "I", Cond.methodLink RX4 95 yX4_fail, Cond.instanceMethod yX4_fail, Cond.selects RX4 yX4_fail yX4_fail, Cond.code yX4_fail cX4_fail 2 (some .boolean), Cond.methodLink RX4 109 yX4_readList, Cond.instanceMethod yX4_readList, Cond.selects RX4 yX4_readList yX4_readList, Cond.code yX4_readList cX4_readList 5 (some .int)]
def wsX4_readNames_r6 : List Cond := [Cond.methodLink RX4 122 yX4_readName, Cond.instanceMethod yX4_readName, Cond.selects RX4 yX4_readName yX4_readName, Cond.code yX4_readName cX4_readName 5 (some .boolean), Cond.methodLink RX4 143 yX4_isReserved, Cond.instanceMethod yX4_isReserved, Cond.selects RX4 yX4_isReserved yX4_isReserved, Cond.code yX4_isReserved cX4_isReserved 1 (some .boolean), Cond.methodLink RX4 147 yX2_seek, Cond.instanceMethod yX2_seek, Cond.selects RX2 yX2_seek yX2_seek, Cond.code yX2_seek cX2_seek 7 (some .int), Cond.methodLink RX2 35 yX2_holds, Cond.instanceMethod yX2_holds, Cond.selects RX2 yX2_holds yX2_holds, Cond.code yX2_holds cX2_holds 6 (some .boolean), Cond.methodLink RX2 39 yX2_lengthOf, Cond.instanceMethod yX2_lengthOf, Cond.selects RX2 yX2_lengthOf yX2_lengthOf, Cond.code yX2_lengthOf cX2_lengthOf 2 (some .int), Cond.fieldLink RX2 15 "GainTrees$Names" "lengths" "[I", Cond.methodLink RX2 42 yX2_letterOf, Cond.instanceMethod yX2_letterOf, Cond.selects RX2 yX2_letterOf yX2_letterOf]
def wsX4_readNames_r7 : List Cond := [Cond.code yX2_letterOf cX2_letterOf 3 (some .int), Cond.fieldLink RX2 11 "GainTrees$Names" "letters" "[B", Cond.methodLink RX2 29 yX0_at, Cond.methodLink RX4 151 yX2_put, Cond.instanceMethod yX2_put, Cond.selects RX2 yX2_put yX2_put, Cond.code yX2_put cX2_put 7 none, Cond.methodLink RX4 129 yX4_takeSign, Cond.instanceMethod yX4_takeSign, Cond.selects RX4 yX4_takeSign yX4_takeSign, Cond.code yX4_takeSign cX4_takeSign 2 (some .boolean), Cond.methodLink RX4 115 yX4_readAttribute, Cond.instanceMethod yX4_readAttribute, Cond.selects RX4 yX4_readAttribute yX4_readAttribute, Cond.code yX4_readAttribute cX4_readAttribute 3 (some .boolean), Cond.methodLink RX4 119 yX2_attributeSlot, Cond.static yX2_attributeSlot, Cond.code yX2_attributeSlot cX2_attributeSlot 1 (some .int), Cond.methodLink RX4 126 yX2_addAttribute, Cond.instanceMethod yX2_addAttribute, Cond.selects RX2 yX2_addAttribute yX2_addAttribute, Cond.code yX2_addAttribute cX2_addAttribute 1 none, Cond.fieldLink RX2 19 "GainTrees$Names" "values" "[I", Cond.methodLink RX4 132 yX2_valueSlot]
def wsX4_readNames_r8 : List Cond := [Cond.static yX2_valueSlot, Cond.code yX2_valueSlot cX2_valueSlot 2 (some .int), Cond.methodLink RX4 136 yX2_setValues, Cond.instanceMethod yX2_setValues, Cond.selects RX2 yX2_setValues yX2_setValues, Cond.code yX2_setValues cX2_setValues 3 none, Cond.methodLink RX4 140 yX2_valuesOf, Cond.instanceMethod yX2_valuesOf, Cond.selects RX2 yX2_valuesOf yX2_valuesOf, Cond.code yX2_valuesOf cX2_valuesOf 2 (some .int)]
def wsX4_readNames : List Cond := .code yX4_readNames cX4_readNames 3 (some .boolean) :: ((wsX4_readNames_r1 ++ (wsX4_readNames_r2 ++ (wsX4_readNames_r3 ++ (wsX4_readNames_r4 ++ (wsX4_readNames_r5 ++ (wsX4_readNames_r6 ++ (wsX4_readNames_r7 ++ wsX4_readNames_r8))))))) ++ wsX20 ++ wsX40 ++ wsX00)
def wsX4_seekWord_r1 : List Cond := [Cond.fieldLink RX4 44 "GainTrees$Reader" "kind" "I", Cond.fieldLink RX4 15 "GainTrees$Reader" "tape" "LGainTrees$Bytes;", Cond.fieldLink RX4 28 "GainTrees$Reader" "from" "I", Cond.fieldLink RX4 22 "GainTrees$Reader" "to" "I", Cond.fieldLink RX4 171 "GainTrees$Reader" "value" "I", Cond.methodLink RX4 95 yX4_fail, Cond.instanceMethod yX4_fail, Cond.selects RX4 yX4_fail yX4_fail, Cond.initialized RX4, Cond.code yX4_fail cX4_fail 2 (some .boolean), Cond.fieldLink RX4 19 "GainTrees$Reader" "fault" "I", Cond.fieldLink RX4 9 "GainTrees$Reader" "faultAt" "I", Cond.methodLink RX4 147 yX2_seek, Cond.instanceMethod yX2_seek, Cond.selects RX2 yX2_seek yX2_seek, Cond.initialized RX2, Cond.code yX2_seek cX2_seek 7 (some .int), Cond.methodLink RX2 35 yX2_holds, Cond.instanceMethod yX2_holds, Cond.selects RX2 yX2_holds yX2_holds, Cond.code yX2_holds cX2_holds 6 (some .boolean), Cond.methodLink RX2 39 yX2_lengthOf, Cond.instanceMethod yX2_lengthOf, Cond.selects RX2 yX2_lengthOf yX2_lengthOf]
def wsX4_seekWord_r2 : List Cond := [Cond.code yX2_lengthOf cX2_lengthOf 2 (some .int), Cond.fieldLink RX2 15 "GainTrees$Names" "lengths" "[I", Cond.methodLink RX2 42 yX2_letterOf, Cond.instanceMethod yX2_letterOf, Cond.selects RX2 yX2_letterOf yX2_letterOf, Cond.code yX2_letterOf cX2_letterOf 3 (some .int), Cond.fieldLink RX2 11 "GainTrees$Names" "letters" "[B", Cond.methodLink RX2 29 yX0_at, Cond.instanceMethod yX0_at, Cond.selects RX0 yX0_at yX0_at, Cond.initialized RX0, Cond.code yX0_at cX0_at 2 (some .int), Cond.fieldLink RX0 21 "GainTrees$Bytes" "kept" "I", Cond.fieldLink RX0 15 "GainTrees$Bytes" "data" "[B"]
def wsX4_seekWord : List Cond := .code yX4_seekWord cX4_seekWord 4 (some .boolean) :: ((wsX4_seekWord_r1 ++ wsX4_seekWord_r2) ++ wsX40 ++ wsX20 ++ wsX00)
def wsX4_checkNumber : List Cond := .code yX4_checkNumber cX4_checkNumber 1 (some .boolean) :: ([.fieldLink RX4 44 "GainTrees$Reader" "kind" "I", .fieldLink RX4 63 "GainTrees$Reader" "number" "J", .constantLong RX4 191 (-1000000000), .constantLong RX4 193 (1000000000), .fieldLink RX4 171 "GainTrees$Reader" "value" "I", .methodLink RX4 95 yX4_fail, .instanceMethod yX4_fail, .selects RX4 yX4_fail yX4_fail, .initialized RX4, .code yX4_fail cX4_fail 2 (some .boolean), .fieldLink RX4 19 "GainTrees$Reader" "fault" "I", .fieldLink RX4 28 "GainTrees$Reader" "from" "I", .fieldLink RX4 9 "GainTrees$Reader" "faultAt" "I"] ++ wsX40)
def wsX8_put : List Cond := .code yX8_put cX8_put 4 none :: ([.fieldLink RX8 15 "GainTrees$Table" "most" "I", .fieldLink RX8 21 "GainTrees$Table" "cells" "[I", .methodLink RX8 25 yX8_isColumn, .static yX8_isColumn, .initialized RX8, .code yX8_isColumn cX8_isColumn 1 (some .boolean)] ++ wsX80)
def wsX4_readCell_r1 : List Cond := [Cond.fieldLink RX4 160 "GainTrees$Table" "most" "I", Cond.fieldLink RX4 171 "GainTrees$Reader" "value" "I", Cond.methodLink RX4 140 yX2_valuesOf, Cond.instanceMethod yX2_valuesOf, Cond.selects RX2 yX2_valuesOf yX2_valuesOf, Cond.initialized RX2, Cond.code yX2_valuesOf cX2_valuesOf 2 (some .int), Cond.fieldLink RX2 26 "GainTrees$Names" "attributes" "I", Cond.fieldLink RX2 19 "GainTrees$Names" "values" "[I", Cond.methodLink RX4 132 yX2_valueSlot, Cond.static yX2_valueSlot, Cond.code yX2_valueSlot cX2_valueSlot 2 (some .int), Cond.methodLink RX4 184 yX4_seekWord, Cond.instanceMethod yX4_seekWord, Cond.selects RX4 yX4_seekWord yX4_seekWord, Cond.initialized RX4, Cond.code yX4_seekWord cX4_seekWord 4 (some .boolean), Cond.fieldLink RX4 44 "GainTrees$Reader" "kind" "I", Cond.fieldLink RX4 15 "GainTrees$Reader" "tape" "LGainTrees$Bytes;", Cond.fieldLink RX4 28 "GainTrees$Reader" "from" "I", Cond.fieldLink RX4 22 "GainTrees$Reader" "to" "I", Cond.methodLink RX4 95 yX4_fail, Cond.instanceMethod yX4_fail, Cond.selects RX4 yX4_fail yX4_fail]
def wsX4_readCell_r2 : List Cond := [Cond.code yX4_fail cX4_fail 2 (some .boolean), Cond.fieldLink RX4 19 "GainTrees$Reader" "fault" "I", Cond.fieldLink RX4 9 "GainTrees$Reader" "faultAt" "I", Cond.methodLink RX4 147 yX2_seek, Cond.instanceMethod yX2_seek, Cond.selects RX2 yX2_seek yX2_seek, Cond.code yX2_seek cX2_seek 7 (some .int), Cond.methodLink RX2 35 yX2_holds, Cond.instanceMethod yX2_holds, Cond.selects RX2 yX2_holds yX2_holds, Cond.code yX2_holds cX2_holds 6 (some .boolean), Cond.methodLink RX2 39 yX2_lengthOf, Cond.instanceMethod yX2_lengthOf, Cond.selects RX2 yX2_lengthOf yX2_lengthOf, Cond.code yX2_lengthOf cX2_lengthOf 2 (some .int), Cond.fieldLink RX2 15 "GainTrees$Names" "lengths" "[I", Cond.methodLink RX2 42 yX2_letterOf, Cond.instanceMethod yX2_letterOf, Cond.selects RX2 yX2_letterOf yX2_letterOf, Cond.code yX2_letterOf cX2_letterOf 3 (some .int), Cond.fieldLink RX2 11 "GainTrees$Names" "letters" "[B", Cond.methodLink RX2 29 yX0_at, Cond.instanceMethod yX0_at, Cond.selects RX0 yX0_at yX0_at]
def wsX4_readCell_r3 : List Cond := [Cond.initialized RX0, Cond.code yX0_at cX0_at 2 (some .int), Cond.fieldLink RX0 21 "GainTrees$Bytes" "kept" "I", Cond.fieldLink RX0 15 "GainTrees$Bytes" "data" "[B", Cond.methodLink RX4 188 yX4_checkNumber, Cond.instanceMethod yX4_checkNumber, Cond.selects RX4 yX4_checkNumber yX4_checkNumber, Cond.code yX4_checkNumber cX4_checkNumber 1 (some .boolean), Cond.fieldLink RX4 63 "GainTrees$Reader" "number" "J", Cond.constantLong RX4 191 (-1000000000), Cond.constantLong RX4 193 (1000000000), Cond.methodLink RX4 174 yX8_put, Cond.instanceMethod yX8_put, Cond.selects RX8 yX8_put yX8_put, Cond.initialized RX8, Cond.code yX8_put cX8_put 4 none, Cond.fieldLink RX8 15 "GainTrees$Table" "most" "I", Cond.fieldLink RX8 21 "GainTrees$Table" "cells" "[I", Cond.methodLink RX8 25 yX8_isColumn, Cond.static yX8_isColumn, Cond.code yX8_isColumn cX8_isColumn 1 (some .boolean), Cond.methodLink RX4 25 yX4_step, Cond.instanceMethod yX4_step, Cond.selects RX4 yX4_step yX4_step]
def wsX4_readCell_r4 : List Cond := [Cond.code yX4_step cX4_step 2 none, Cond.fieldLink RX4 31 "GainTrees$Bytes" "kept" "I", Cond.methodLink RX4 36 yX0_at, Cond.methodLink RX4 40 yX4_isBlank, Cond.static yX4_isBlank, Cond.code yX4_isBlank cX4_isBlank 1 (some .boolean), Cond.methodLink RX4 47 yX4_isLetter, Cond.static yX4_isLetter, Cond.code yX4_isLetter cX4_isLetter 1 (some .boolean), Cond.methodLink RX4 50 yX4_stepWord, Cond.instanceMethod yX4_stepWord, Cond.selects RX4 yX4_stepWord yX4_stepWord, Cond.code yX4_stepWord cX4_stepWord 1 none, Cond.methodLink RX4 53 yX4_isDigit, Cond.static yX4_isDigit, Cond.code yX4_isDigit cX4_isDigit 1 (some .boolean), Cond.methodLink RX4 56 yX4_stepNumber, Cond.instanceMethod yX4_stepNumber, Cond.selects RX4 yX4_stepNumber yX4_stepNumber, Cond.code yX4_stepNumber cX4_stepNumber 5 none, Cond.constantLong RX4 67 (10), Cond.constantLong RX4 69 (1000), Cond.methodLink RX4 59 yX4_stepSign, Cond.instanceMethod yX4_stepSign]
def wsX4_readCell_r5 : List Cond := [Cond.selects RX4 yX4_stepSign yX4_stepSign, Cond.code yX4_stepSign cX4_stepSign 4 none]
def wsX4_readCell : List Cond := .code yX4_readCell cX4_readCell 7 (some .boolean) :: ((wsX4_readCell_r1 ++ (wsX4_readCell_r2 ++ (wsX4_readCell_r3 ++ (wsX4_readCell_r4 ++ wsX4_readCell_r5)))) ++ wsX80 ++ wsX40 ++ wsX20 ++ wsX00)
def wsX4_readCells_r1 : List Cond := [Cond.fieldLink RX4 177 "GainTrees$Names" "attributes" "I", Cond.methodLink RX4 180 yX4_readCell, Cond.instanceMethod yX4_readCell, Cond.selects RX4 yX4_readCell yX4_readCell, Cond.initialized RX4, Cond.code yX4_readCell cX4_readCell 7 (some .boolean), Cond.fieldLink RX4 160 "GainTrees$Table" "most" "I", Cond.fieldLink RX4 171 "GainTrees$Reader" "value" "I", Cond.methodLink RX4 140 yX2_valuesOf, Cond.instanceMethod yX2_valuesOf, Cond.selects RX2 yX2_valuesOf yX2_valuesOf, Cond.initialized RX2, Cond.code yX2_valuesOf cX2_valuesOf 2 (some .int), Cond.fieldLink RX2 26 "GainTrees$Names" "attributes" "I", Cond.fieldLink RX2 19 "GainTrees$Names" "values" "[I", Cond.methodLink RX4 132 yX2_valueSlot, Cond.static yX2_valueSlot, Cond.code yX2_valueSlot cX2_valueSlot 2 (some .int), Cond.methodLink RX4 184 yX4_seekWord, Cond.instanceMethod yX4_seekWord, Cond.selects RX4 yX4_seekWord yX4_seekWord, Cond.code yX4_seekWord cX4_seekWord 4 (some .boolean), Cond.fieldLink RX4 44 "GainTrees$Reader" "kind" "I", Cond.fieldLink RX4 15 "GainTrees$Reader" "tape" "LGainTrees$Bytes;"]
def wsX4_readCells_r2 : List Cond := [Cond.fieldLink RX4 28 "GainTrees$Reader" "from" "I", Cond.fieldLink RX4 22 "GainTrees$Reader" "to" "I", Cond.methodLink RX4 95 yX4_fail, Cond.instanceMethod yX4_fail, Cond.selects RX4 yX4_fail yX4_fail, Cond.code yX4_fail cX4_fail 2 (some .boolean), Cond.fieldLink RX4 19 "GainTrees$Reader" "fault" "I", Cond.fieldLink RX4 9 "GainTrees$Reader" "faultAt" "I", Cond.methodLink RX4 147 yX2_seek, Cond.instanceMethod yX2_seek, Cond.selects RX2 yX2_seek yX2_seek, Cond.code yX2_seek cX2_seek 7 (some .int), Cond.methodLink RX2 35 yX2_holds, Cond.instanceMethod yX2_holds, Cond.selects RX2 yX2_holds yX2_holds, Cond.code yX2_holds cX2_holds 6 (some .boolean), Cond.methodLink RX2 39 yX2_lengthOf, Cond.instanceMethod yX2_lengthOf, Cond.selects RX2 yX2_lengthOf yX2_lengthOf, Cond.code yX2_lengthOf cX2_lengthOf 2 (some .int), Cond.fieldLink RX2 15 "GainTrees$Names" "lengths" "[I", Cond.methodLink RX2 42 yX2_letterOf, Cond.instanceMethod yX2_letterOf, Cond.selects RX2 yX2_letterOf yX2_letterOf]
def wsX4_readCells_r3 : List Cond := [Cond.code yX2_letterOf cX2_letterOf 3 (some .int), Cond.fieldLink RX2 11 "GainTrees$Names" "letters" "[B", Cond.methodLink RX2 29 yX0_at, Cond.instanceMethod yX0_at, Cond.selects RX0 yX0_at yX0_at, Cond.initialized RX0, Cond.code yX0_at cX0_at 2 (some .int), Cond.fieldLink RX0 21 "GainTrees$Bytes" "kept" "I", Cond.fieldLink RX0 15 "GainTrees$Bytes" "data" "[B", Cond.methodLink RX4 188 yX4_checkNumber, Cond.instanceMethod yX4_checkNumber, Cond.selects RX4 yX4_checkNumber yX4_checkNumber, Cond.code yX4_checkNumber cX4_checkNumber 1 (some .boolean), Cond.fieldLink RX4 63 "GainTrees$Reader" "number" "J", Cond.constantLong RX4 191 (-1000000000), Cond.constantLong RX4 193 (1000000000), Cond.methodLink RX4 174 yX8_put, Cond.instanceMethod yX8_put, Cond.selects RX8 yX8_put yX8_put, Cond.initialized RX8, Cond.code yX8_put cX8_put 4 none, Cond.fieldLink RX8 15 "GainTrees$Table" "most" "I", Cond.fieldLink RX8 21 "GainTrees$Table" "cells" "[I", Cond.methodLink RX8 25 yX8_isColumn]
def wsX4_readCells_r4 : List Cond := [Cond.static yX8_isColumn, Cond.code yX8_isColumn cX8_isColumn 1 (some .boolean), Cond.methodLink RX4 25 yX4_step, Cond.instanceMethod yX4_step, Cond.selects RX4 yX4_step yX4_step, Cond.code yX4_step cX4_step 2 none, Cond.fieldLink RX4 31 "GainTrees$Bytes" "kept" "I", Cond.methodLink RX4 36 yX0_at, Cond.methodLink RX4 40 yX4_isBlank, Cond.static yX4_isBlank, Cond.code yX4_isBlank cX4_isBlank 1 (some .boolean), Cond.methodLink RX4 47 yX4_isLetter, Cond.static yX4_isLetter, Cond.code yX4_isLetter cX4_isLetter 1 (some .boolean), Cond.methodLink RX4 50 yX4_stepWord, Cond.instanceMethod yX4_stepWord, Cond.selects RX4 yX4_stepWord yX4_stepWord, Cond.code yX4_stepWord cX4_stepWord 1 none, Cond.methodLink RX4 53 yX4_isDigit, Cond.static yX4_isDigit, Cond.code yX4_isDigit cX4_isDigit 1 (some .boolean), Cond.methodLink RX4 56 yX4_stepNumber, Cond.instanceMethod yX4_stepNumber, Cond.selects RX4 yX4_stepNumber yX4_stepNumber]
def wsX4_readCells_r5 : List Cond := [Cond.code yX4_stepNumber cX4_stepNumber 5 none, Cond.constantLong RX4 67 (10), Cond.constantLong RX4 69 (1000), Cond.methodLink RX4 59 yX4_stepSign, Cond.instanceMethod yX4_stepSign, Cond.selects RX4 yX4_stepSign yX4_stepSign, Cond.code yX4_stepSign cX4_stepSign 4 none, Cond.methodLink RX4 129 yX4_takeSign, Cond.instanceMethod yX4_takeSign, Cond.selects RX4 yX4_takeSign yX4_takeSign, Cond.code yX4_takeSign cX4_takeSign 2 (some .boolean)]
def wsX4_readCells : List Cond := .code yX4_readCells cX4_readCells 5 (some .boolean) :: ((wsX4_readCells_r1 ++ (wsX4_readCells_r2 ++ (wsX4_readCells_r3 ++ (wsX4_readCells_r4 ++ wsX4_readCells_r5)))) ++ wsX20 ++ wsX80 ++ wsX40 ++ wsX00)
def wsX4_readClass_r1 : List Cond := [Cond.fieldLink RX4 113 "GainTrees$Names" "classes" "I", Cond.methodLink RX4 184 yX4_seekWord, Cond.instanceMethod yX4_seekWord, Cond.selects RX4 yX4_seekWord yX4_seekWord, Cond.initialized RX4, Cond.code yX4_seekWord cX4_seekWord 4 (some .boolean), Cond.fieldLink RX4 44 "GainTrees$Reader" "kind" "I", Cond.fieldLink RX4 15 "GainTrees$Reader" "tape" "LGainTrees$Bytes;", Cond.fieldLink RX4 28 "GainTrees$Reader" "from" "I", Cond.fieldLink RX4 22 "GainTrees$Reader" "to" "I", Cond.fieldLink RX4 171 "GainTrees$Reader" "value" "I", Cond.methodLink RX4 95 yX4_fail, Cond.instanceMethod yX4_fail, Cond.selects RX4 yX4_fail yX4_fail, Cond.code yX4_fail cX4_fail 2 (some .boolean), Cond.fieldLink RX4 19 "GainTrees$Reader" "fault" "I", Cond.fieldLink RX4 9 "GainTrees$Reader" "faultAt" "I", Cond.methodLink RX4 147 yX2_seek, Cond.instanceMethod yX2_seek, Cond.selects RX2 yX2_seek yX2_seek, Cond.initialized RX2, Cond.code yX2_seek cX2_seek 7 (some .int), Cond.methodLink RX2 35 yX2_holds, Cond.instanceMethod yX2_holds]
def wsX4_readClass_r2 : List Cond := [Cond.selects RX2 yX2_holds yX2_holds, Cond.code yX2_holds cX2_holds 6 (some .boolean), Cond.methodLink RX2 39 yX2_lengthOf, Cond.instanceMethod yX2_lengthOf, Cond.selects RX2 yX2_lengthOf yX2_lengthOf, Cond.code yX2_lengthOf cX2_lengthOf 2 (some .int), Cond.fieldLink RX2 15 "GainTrees$Names" "lengths" "[I", Cond.methodLink RX2 42 yX2_letterOf, Cond.instanceMethod yX2_letterOf, Cond.selects RX2 yX2_letterOf yX2_letterOf, Cond.code yX2_letterOf cX2_letterOf 3 (some .int), Cond.fieldLink RX2 11 "GainTrees$Names" "letters" "[B", Cond.methodLink RX2 29 yX0_at, Cond.instanceMethod yX0_at, Cond.selects RX0 yX0_at yX0_at, Cond.initialized RX0, Cond.code yX0_at cX0_at 2 (some .int), Cond.fieldLink RX0 21 "GainTrees$Bytes" "kept" "I", Cond.fieldLink RX0 15 "GainTrees$Bytes" "data" "[B", Cond.methodLink RX4 25 yX4_step, Cond.instanceMethod yX4_step, Cond.selects RX4 yX4_step yX4_step, Cond.code yX4_step cX4_step 2 none, Cond.fieldLink RX4 31 "GainTrees$Bytes" "kept" "I"]
def wsX4_readClass_r3 : List Cond := [Cond.methodLink RX4 36 yX0_at, Cond.methodLink RX4 40 yX4_isBlank, Cond.static yX4_isBlank, Cond.code yX4_isBlank cX4_isBlank 1 (some .boolean), Cond.methodLink RX4 47 yX4_isLetter, Cond.static yX4_isLetter, Cond.code yX4_isLetter cX4_isLetter 1 (some .boolean), Cond.methodLink RX4 50 yX4_stepWord, Cond.instanceMethod yX4_stepWord, Cond.selects RX4 yX4_stepWord yX4_stepWord, Cond.code yX4_stepWord cX4_stepWord 1 none, Cond.methodLink RX4 53 yX4_isDigit, Cond.static yX4_isDigit, Cond.code yX4_isDigit cX4_isDigit 1 (some .boolean), Cond.methodLink RX4 56 yX4_stepNumber, Cond.instanceMethod yX4_stepNumber, Cond.selects RX4 yX4_stepNumber yX4_stepNumber, Cond.code yX4_stepNumber cX4_stepNumber 5 none, Cond.fieldLink RX4 63 "GainTrees$Reader" "number" "J", Cond.constantLong RX4 67 (10), Cond.constantLong RX4 69 (1000), Cond.methodLink RX4 59 yX4_stepSign, Cond.instanceMethod yX4_stepSign, Cond.selects RX4 yX4_stepSign yX4_stepSign]
def wsX4_readClass_r4 : List Cond := [Cond.code yX4_stepSign cX4_stepSign 4 none]
def wsX4_readClass : List Cond := .code yX4_readClass cX4_readClass 2 (some .boolean) :: ((wsX4_readClass_r1 ++ (wsX4_readClass_r2 ++ (wsX4_readClass_r3 ++ wsX4_readClass_r4))) ++ wsX20 ++ wsX40 ++ wsX00)
def wsX4_readRows_r1 : List Cond := [Cond.fieldLink RX4 155 "GainTrees$Table" "size" "I", Cond.fieldLink RX4 160 "GainTrees$Table" "most" "I", Cond.fieldLink RX4 44 "GainTrees$Reader" "kind" "I", Cond.fieldLink RX4 171 "GainTrees$Reader" "value" "I", Cond.methodLink RX4 98 yX4_begin, Cond.instanceMethod yX4_begin, Cond.selects RX4 yX4_begin yX4_begin, Cond.initialized RX4, Cond.code yX4_begin cX4_begin 1 none, Cond.fieldLink RX4 19 "GainTrees$Reader" "fault" "I", Cond.fieldLink RX4 9 "GainTrees$Reader" "faultAt" "I", Cond.fieldLink RX4 22 "GainTrees$Reader" "to" "I", Cond.methodLink RX4 25 yX4_step, Cond.instanceMethod yX4_step, Cond.selects RX4 yX4_step yX4_step, Cond.code yX4_step cX4_step 2 none, Cond.fieldLink RX4 15 "GainTrees$Reader" "tape" "LGainTrees$Bytes;", Cond.fieldLink RX4 31 "GainTrees$Bytes" "kept" "I", Cond.fieldLink RX4 28 "GainTrees$Reader" "from" "I", Cond.methodLink RX4 36 yX0_at, Cond.instanceMethod yX0_at, Cond.selects RX0 yX0_at yX0_at, Cond.initialized RX0, Cond.code yX0_at cX0_at 2 (some .int)]
def wsX4_readRows_r2 : List Cond := [Cond.fieldLink RX0 21 "GainTrees$Bytes" "kept" "I", Cond.fieldLink RX0 15 "GainTrees$Bytes" "data" "[B", Cond.methodLink RX4 40 yX4_isBlank, Cond.static yX4_isBlank, Cond.code yX4_isBlank cX4_isBlank 1 (some .boolean), Cond.methodLink RX4 47 yX4_isLetter, Cond.static yX4_isLetter, Cond.code yX4_isLetter cX4_isLetter 1 (some .boolean), Cond.methodLink RX4 50 yX4_stepWord, Cond.instanceMethod yX4_stepWord, Cond.selects RX4 yX4_stepWord yX4_stepWord, Cond.code yX4_stepWord cX4_stepWord 1 none, Cond.methodLink RX4 53 yX4_isDigit, Cond.static yX4_isDigit, Cond.code yX4_isDigit cX4_isDigit 1 (some .boolean), Cond.methodLink RX4 56 yX4_stepNumber, Cond.instanceMethod yX4_stepNumber, Cond.selects RX4 yX4_stepNumber yX4_stepNumber, Cond.code yX4_stepNumber cX4_stepNumber 5 none, Cond.fieldLink RX4 63 "GainTrees$Reader" "number" "J", Cond.constantLong RX4 67 (10), Cond.constantLong RX4 69 (1000), Cond.methodLink RX4 59 yX4_stepSign, Cond.instanceMethod yX4_stepSign]
def wsX4_readRows_r3 : List Cond := [Cond.selects RX4 yX4_stepSign yX4_stepSign, Cond.code yX4_stepSign cX4_stepSign 4 none, Cond.methodLink RX4 163 yX4_readCells, Cond.instanceMethod yX4_readCells, Cond.selects RX4 yX4_readCells yX4_readCells, Cond.code yX4_readCells cX4_readCells 5 (some .boolean), Cond.fieldLink RX4 177 "GainTrees$Names" "attributes" "I", Cond.methodLink RX4 180 yX4_readCell, Cond.instanceMethod yX4_readCell, Cond.selects RX4 yX4_readCell yX4_readCell, Cond.code yX4_readCell cX4_readCell 7 (some .boolean), Cond.methodLink RX4 140 yX2_valuesOf, Cond.instanceMethod yX2_valuesOf, Cond.selects RX2 yX2_valuesOf yX2_valuesOf, Cond.initialized RX2, Cond.code yX2_valuesOf cX2_valuesOf 2 (some .int), Cond.fieldLink RX2 26 "GainTrees$Names" "attributes" "I", Cond.fieldLink RX2 19 "GainTrees$Names" "values" "[I", Cond.methodLink RX4 132 yX2_valueSlot, Cond.static yX2_valueSlot, Cond.code yX2_valueSlot cX2_valueSlot 2 (some .int), Cond.methodLink RX4 184 yX4_seekWord, Cond.instanceMethod yX4_seekWord, Cond.selects RX4 yX4_seekWord yX4_seekWord]
def wsX4_readRows_r4 : List Cond := [Cond.code yX4_seekWord cX4_seekWord 4 (some .boolean), Cond.methodLink RX4 95 yX4_fail, Cond.instanceMethod yX4_fail, Cond.selects RX4 yX4_fail yX4_fail, Cond.code yX4_fail cX4_fail 2 (some .boolean), Cond.methodLink RX4 147 yX2_seek, Cond.instanceMethod yX2_seek, Cond.selects RX2 yX2_seek yX2_seek, Cond.code yX2_seek cX2_seek 7 (some .int), Cond.methodLink RX2 35 yX2_holds, Cond.instanceMethod yX2_holds, Cond.selects RX2 yX2_holds yX2_holds, Cond.code yX2_holds cX2_holds 6 (some .boolean), Cond.methodLink RX2 39 yX2_lengthOf, Cond.instanceMethod yX2_lengthOf, Cond.selects RX2 yX2_lengthOf yX2_lengthOf, Cond.code yX2_lengthOf cX2_lengthOf 2 (some .int), Cond.fieldLink RX2 15 "GainTrees$Names" "lengths" "[I", Cond.methodLink RX2 42 yX2_letterOf, Cond.instanceMethod yX2_letterOf, Cond.selects RX2 yX2_letterOf yX2_letterOf, Cond.code yX2_letterOf cX2_letterOf 3 (some .int), Cond.fieldLink RX2 11 "GainTrees$Names" "letters" "[B", Cond.methodLink RX2 29 yX0_at]
def wsX4_readRows_r5 : List Cond := [Cond.methodLink RX4 188 yX4_checkNumber, Cond.instanceMethod yX4_checkNumber, Cond.selects RX4 yX4_checkNumber yX4_checkNumber, Cond.code yX4_checkNumber cX4_checkNumber 1 (some .boolean), Cond.constantLong RX4 191 (-1000000000), Cond.constantLong RX4 193 (1000000000), Cond.methodLink RX4 174 yX8_put, Cond.instanceMethod yX8_put, Cond.selects RX8 yX8_put yX8_put, Cond.initialized RX8, Cond.code yX8_put cX8_put 4 none, Cond.fieldLink RX8 15 "GainTrees$Table" "most" "I", Cond.fieldLink RX8 21 "GainTrees$Table" "cells" "[I", Cond.methodLink RX8 25 yX8_isColumn, Cond.static yX8_isColumn, Cond.code yX8_isColumn cX8_isColumn 1 (some .boolean), Cond.methodLink RX4 129 yX4_takeSign, Cond.instanceMethod yX4_takeSign, Cond.selects RX4 yX4_takeSign yX4_takeSign, Cond.code yX4_takeSign cX4_takeSign 2 (some .boolean), Cond.methodLink RX4 167 yX4_readClass, Cond.instanceMethod yX4_readClass, Cond.selects RX4 yX4_readClass yX4_readClass, Cond.code yX4_readClass cX4_readClass 2 (some .boolean)]
def wsX4_readRows_r6 : List Cond := [Cond.fieldLink RX4 113 "GainTrees$Names" "classes" "I"]
def wsX4_readRows : List Cond := .code yX4_readRows cX4_readRows 4 (some .boolean) :: ((wsX4_readRows_r1 ++ (wsX4_readRows_r2 ++ (wsX4_readRows_r3 ++ (wsX4_readRows_r4 ++ (wsX4_readRows_r5 ++ wsX4_readRows_r6))))) ++ wsX80 ++ wsX40 ++ wsX00 ++ wsX20)
def wsX4_readRow_r1 : List Cond := [Cond.fieldLink RX4 177 "GainTrees$Names" "attributes" "I", Cond.fieldLink RX4 44 "GainTrees$Reader" "kind" "I", Cond.methodLink RX4 98 yX4_begin, Cond.instanceMethod yX4_begin, Cond.selects RX4 yX4_begin yX4_begin, Cond.initialized RX4, Cond.code yX4_begin cX4_begin 1 none, Cond.fieldLink RX4 19 "GainTrees$Reader" "fault" "I", Cond.fieldLink RX4 9 "GainTrees$Reader" "faultAt" "I", Cond.fieldLink RX4 22 "GainTrees$Reader" "to" "I", Cond.methodLink RX4 25 yX4_step, Cond.instanceMethod yX4_step, Cond.selects RX4 yX4_step yX4_step, Cond.code yX4_step cX4_step 2 none, Cond.fieldLink RX4 15 "GainTrees$Reader" "tape" "LGainTrees$Bytes;", Cond.fieldLink RX4 31 "GainTrees$Bytes" "kept" "I", Cond.fieldLink RX4 28 "GainTrees$Reader" "from" "I", Cond.methodLink RX4 36 yX0_at, Cond.instanceMethod yX0_at, Cond.selects RX0 yX0_at yX0_at, Cond.initialized RX0, Cond.code yX0_at cX0_at 2 (some .int), Cond.fieldLink RX0 21 "GainTrees$Bytes" "kept" "I", Cond.fieldLink RX0 15 "GainTrees$Bytes" "data" "[B"]
def wsX4_readRow_r2 : List Cond := [Cond.methodLink RX4 40 yX4_isBlank, Cond.static yX4_isBlank, Cond.code yX4_isBlank cX4_isBlank 1 (some .boolean), Cond.methodLink RX4 47 yX4_isLetter, Cond.static yX4_isLetter, Cond.code yX4_isLetter cX4_isLetter 1 (some .boolean), Cond.methodLink RX4 50 yX4_stepWord, Cond.instanceMethod yX4_stepWord, Cond.selects RX4 yX4_stepWord yX4_stepWord, Cond.code yX4_stepWord cX4_stepWord 1 none, Cond.methodLink RX4 53 yX4_isDigit, Cond.static yX4_isDigit, Cond.code yX4_isDigit cX4_isDigit 1 (some .boolean), Cond.methodLink RX4 56 yX4_stepNumber, Cond.instanceMethod yX4_stepNumber, Cond.selects RX4 yX4_stepNumber yX4_stepNumber, Cond.code yX4_stepNumber cX4_stepNumber 5 none, Cond.fieldLink RX4 63 "GainTrees$Reader" "number" "J", Cond.constantLong RX4 67 (10), Cond.constantLong RX4 69 (1000), Cond.methodLink RX4 59 yX4_stepSign, Cond.instanceMethod yX4_stepSign, Cond.selects RX4 yX4_stepSign yX4_stepSign, Cond.code yX4_stepSign cX4_stepSign 4 none]
def wsX4_readRow_r3 : List Cond := [Cond.methodLink RX4 129 yX4_takeSign, Cond.instanceMethod yX4_takeSign, Cond.selects RX4 yX4_takeSign yX4_takeSign, Cond.code yX4_takeSign cX4_takeSign 2 (some .boolean), Cond.methodLink RX4 95 yX4_fail, Cond.instanceMethod yX4_fail, Cond.selects RX4 yX4_fail yX4_fail, Cond.code yX4_fail cX4_fail 2 (some .boolean), Cond.methodLink RX4 180 yX4_readCell, Cond.instanceMethod yX4_readCell, Cond.selects RX4 yX4_readCell yX4_readCell, Cond.code yX4_readCell cX4_readCell 7 (some .boolean), Cond.fieldLink RX4 160 "GainTrees$Table" "most" "I", Cond.fieldLink RX4 171 "GainTrees$Reader" "value" "I", Cond.methodLink RX4 140 yX2_valuesOf, Cond.instanceMethod yX2_valuesOf, Cond.selects RX2 yX2_valuesOf yX2_valuesOf, Cond.initialized RX2, Cond.code yX2_valuesOf cX2_valuesOf 2 (some .int), Cond.fieldLink RX2 26 "GainTrees$Names" "attributes" "I", Cond.fieldLink RX2 19 "GainTrees$Names" "values" "[I", Cond.methodLink RX4 132 yX2_valueSlot, Cond.static yX2_valueSlot, Cond.code yX2_valueSlot cX2_valueSlot 2 (some .int)]
def wsX4_readRow_r4 : List Cond := [Cond.methodLink RX4 184 yX4_seekWord, Cond.instanceMethod yX4_seekWord, Cond.selects RX4 yX4_seekWord yX4_seekWord, Cond.code yX4_seekWord cX4_seekWord 4 (some .boolean), Cond.methodLink RX4 147 yX2_seek, Cond.instanceMethod yX2_seek, Cond.selects RX2 yX2_seek yX2_seek, Cond.code yX2_seek cX2_seek 7 (some .int), Cond.methodLink RX2 35 yX2_holds, Cond.instanceMethod yX2_holds, Cond.selects RX2 yX2_holds yX2_holds, Cond.code yX2_holds cX2_holds 6 (some .boolean), Cond.methodLink RX2 39 yX2_lengthOf, Cond.instanceMethod yX2_lengthOf, Cond.selects RX2 yX2_lengthOf yX2_lengthOf, Cond.code yX2_lengthOf cX2_lengthOf 2 (some .int), Cond.fieldLink RX2 15 "GainTrees$Names" "lengths" "[I", Cond.methodLink RX2 42 yX2_letterOf, Cond.instanceMethod yX2_letterOf, Cond.selects RX2 yX2_letterOf yX2_letterOf, Cond.code yX2_letterOf cX2_letterOf 3 (some .int), Cond.fieldLink RX2 11 "GainTrees$Names" "letters" "[B", Cond.methodLink RX2 29 yX0_at, Cond.methodLink RX4 188 yX4_checkNumber]
def wsX4_readRow_r5 : List Cond := [Cond.instanceMethod yX4_checkNumber, Cond.selects RX4 yX4_checkNumber yX4_checkNumber, Cond.code yX4_checkNumber cX4_checkNumber 1 (some .boolean), Cond.constantLong RX4 191 (-1000000000), Cond.constantLong RX4 193 (1000000000), Cond.methodLink RX4 174 yX8_put, Cond.instanceMethod yX8_put, Cond.selects RX8 yX8_put yX8_put, Cond.initialized RX8, Cond.code yX8_put cX8_put 4 none, Cond.fieldLink RX8 15 "GainTrees$Table" "most" "I", Cond.fieldLink RX8 21 "GainTrees$Table" "cells" "[I", Cond.methodLink RX8 25 yX8_isColumn, Cond.static yX8_isColumn, Cond.code yX8_isColumn cX8_isColumn 1 (some .boolean)]
def wsX4_readRow : List Cond := .code yX4_readRow cX4_readRow 4 (some .boolean) :: ((wsX4_readRow_r1 ++ (wsX4_readRow_r2 ++ (wsX4_readRow_r3 ++ (wsX4_readRow_r4 ++ wsX4_readRow_r5)))) ++ wsX20 ++ wsX40 ++ wsX00 ++ wsX80)
def wsX4_readLabel_r1 : List Cond := [Cond.methodLink RX4 132 yX2_valueSlot, Cond.static yX2_valueSlot, Cond.initialized RX2, Cond.code yX2_valueSlot cX2_valueSlot 2 (some .int), Cond.methodLink RX4 184 yX4_seekWord, Cond.instanceMethod yX4_seekWord, Cond.selects RX4 yX4_seekWord yX4_seekWord, Cond.initialized RX4, Cond.code yX4_seekWord cX4_seekWord 4 (some .boolean), Cond.fieldLink RX4 44 "GainTrees$Reader" "kind" "I", Cond.fieldLink RX4 15 "GainTrees$Reader" "tape" "LGainTrees$Bytes;", Cond.fieldLink RX4 28 "GainTrees$Reader" "from" "I", Cond.fieldLink RX4 22 "GainTrees$Reader" "to" "I", Cond.fieldLink RX4 171 "GainTrees$Reader" "value" "I", Cond.methodLink RX4 95 yX4_fail, Cond.instanceMethod yX4_fail, Cond.selects RX4 yX4_fail yX4_fail, Cond.code yX4_fail cX4_fail 2 (some .boolean), Cond.fieldLink RX4 19 "GainTrees$Reader" "fault" "I", Cond.fieldLink RX4 9 "GainTrees$Reader" "faultAt" "I", Cond.methodLink RX4 147 yX2_seek, Cond.instanceMethod yX2_seek, Cond.selects RX2 yX2_seek yX2_seek, Cond.code yX2_seek cX2_seek 7 (some .int)]
def wsX4_readLabel_r2 : List Cond := [Cond.methodLink RX2 35 yX2_holds, Cond.instanceMethod yX2_holds, Cond.selects RX2 yX2_holds yX2_holds, Cond.code yX2_holds cX2_holds 6 (some .boolean), Cond.methodLink RX2 39 yX2_lengthOf, Cond.instanceMethod yX2_lengthOf, Cond.selects RX2 yX2_lengthOf yX2_lengthOf, Cond.code yX2_lengthOf cX2_lengthOf 2 (some .int), Cond.fieldLink RX2 15 "GainTrees$Names" "lengths" "[I", Cond.methodLink RX2 42 yX2_letterOf, Cond.instanceMethod yX2_letterOf, Cond.selects RX2 yX2_letterOf yX2_letterOf, Cond.code yX2_letterOf cX2_letterOf 3 (some .int), Cond.fieldLink RX2 11 "GainTrees$Names" "letters" "[B", Cond.methodLink RX2 29 yX0_at, Cond.instanceMethod yX0_at, Cond.selects RX0 yX0_at yX0_at, Cond.initialized RX0, Cond.code yX0_at cX0_at 2 (some .int), Cond.fieldLink RX0 21 "GainTrees$Bytes" "kept" "I", Cond.fieldLink RX0 15 "GainTrees$Bytes" "data" "[B", Cond.methodLink RX4 25 yX4_step, Cond.instanceMethod yX4_step, Cond.selects RX4 yX4_step yX4_step]
def wsX4_readLabel_r3 : List Cond := [Cond.code yX4_step cX4_step 2 none, Cond.fieldLink RX4 31 "GainTrees$Bytes" "kept" "I", Cond.methodLink RX4 36 yX0_at, Cond.methodLink RX4 40 yX4_isBlank, Cond.static yX4_isBlank, Cond.code yX4_isBlank cX4_isBlank 1 (some .boolean), Cond.methodLink RX4 47 yX4_isLetter, Cond.static yX4_isLetter, Cond.code yX4_isLetter cX4_isLetter 1 (some .boolean), Cond.methodLink RX4 50 yX4_stepWord, Cond.instanceMethod yX4_stepWord, Cond.selects RX4 yX4_stepWord yX4_stepWord, Cond.code yX4_stepWord cX4_stepWord 1 none, Cond.methodLink RX4 53 yX4_isDigit, Cond.static yX4_isDigit, Cond.code yX4_isDigit cX4_isDigit 1 (some .boolean), Cond.methodLink RX4 56 yX4_stepNumber, Cond.instanceMethod yX4_stepNumber, Cond.selects RX4 yX4_stepNumber yX4_stepNumber, Cond.code yX4_stepNumber cX4_stepNumber 5 none, Cond.fieldLink RX4 63 "GainTrees$Reader" "number" "J", Cond.constantLong RX4 67 (10), Cond.constantLong RX4 69 (1000), Cond.methodLink RX4 59 yX4_stepSign]
def wsX4_readLabel_r4 : List Cond := [Cond.instanceMethod yX4_stepSign, Cond.selects RX4 yX4_stepSign yX4_stepSign, Cond.code yX4_stepSign cX4_stepSign 4 none, Cond.methodLink RX4 129 yX4_takeSign, Cond.instanceMethod yX4_takeSign, Cond.selects RX4 yX4_takeSign yX4_takeSign, Cond.code yX4_takeSign cX4_takeSign 2 (some .boolean)]
def wsX4_readLabel : List Cond := .code yX4_readLabel cX4_readLabel 4 (some .boolean) :: ((wsX4_readLabel_r1 ++ (wsX4_readLabel_r2 ++ (wsX4_readLabel_r3 ++ wsX4_readLabel_r4))) ++ wsX40 ++ wsX20 ++ wsX00)
def wsX4_readFork_r1 : List Cond := [Cond.fieldLink RX4 198 "GainTrees$Reader" "under" "I", Cond.fieldLink RX4 177 "GainTrees$Names" "attributes" "I", Cond.fieldLink RX4 171 "GainTrees$Reader" "value" "I", Cond.fieldLink RX4 201 "GainTrees$Reader" "child" "I", Cond.methodLink RX4 221 yX9_depthBelow, Cond.instanceMethod yX9_depthBelow, Cond.selects RX9 yX9_depthBelow yX9_depthBelow, Cond.initialized RX9, Cond.code yX9_depthBelow cX9_depthBelow 2 (some .int), Cond.fieldLink RX9 52 "GainTrees$Tree" "nodes" "I", Cond.fieldLink RX9 31 "GainTrees$Tree" "depth" "[I", Cond.methodLink RX4 95 yX4_fail, Cond.instanceMethod yX4_fail, Cond.selects RX4 yX4_fail yX4_fail, Cond.initialized RX4, Cond.code yX4_fail cX4_fail 2 (some .boolean), Cond.fieldLink RX4 19 "GainTrees$Reader" "fault" "I", Cond.fieldLink RX4 28 "GainTrees$Reader" "from" "I", Cond.fieldLink RX4 9 "GainTrees$Reader" "faultAt" "I", Cond.methodLink RX4 25 yX4_step, Cond.instanceMethod yX4_step, Cond.selects RX4 yX4_step yX4_step, Cond.code yX4_step cX4_step 2 none, Cond.fieldLink RX4 22 "GainTrees$Reader" "to" "I"]
def wsX4_readFork_r2 : List Cond := [Cond.fieldLink RX4 15 "GainTrees$Reader" "tape" "LGainTrees$Bytes;", Cond.fieldLink RX4 31 "GainTrees$Bytes" "kept" "I", Cond.fieldLink RX4 44 "GainTrees$Reader" "kind" "I", Cond.methodLink RX4 36 yX0_at, Cond.instanceMethod yX0_at, Cond.selects RX0 yX0_at yX0_at, Cond.initialized RX0, Cond.code yX0_at cX0_at 2 (some .int), Cond.fieldLink RX0 21 "GainTrees$Bytes" "kept" "I", Cond.fieldLink RX0 15 "GainTrees$Bytes" "data" "[B", Cond.methodLink RX4 40 yX4_isBlank, Cond.static yX4_isBlank, Cond.code yX4_isBlank cX4_isBlank 1 (some .boolean), Cond.methodLink RX4 47 yX4_isLetter, Cond.static yX4_isLetter, Cond.code yX4_isLetter cX4_isLetter 1 (some .boolean), Cond.methodLink RX4 50 yX4_stepWord, Cond.instanceMethod yX4_stepWord, Cond.selects RX4 yX4_stepWord yX4_stepWord, Cond.code yX4_stepWord cX4_stepWord 1 none, Cond.methodLink RX4 53 yX4_isDigit, Cond.static yX4_isDigit, Cond.code yX4_isDigit cX4_isDigit 1 (some .boolean), Cond.methodLink RX4 56 yX4_stepNumber]
def wsX4_readFork_r3 : List Cond := [Cond.instanceMethod yX4_stepNumber, Cond.selects RX4 yX4_stepNumber yX4_stepNumber, Cond.code yX4_stepNumber cX4_stepNumber 5 none, Cond.fieldLink RX4 63 "GainTrees$Reader" "number" "J", Cond.constantLong RX4 67 (10), Cond.constantLong RX4 69 (1000), Cond.methodLink RX4 59 yX4_stepSign, Cond.instanceMethod yX4_stepSign, Cond.selects RX4 yX4_stepSign yX4_stepSign, Cond.code yX4_stepSign cX4_stepSign 4 none, Cond.methodLink RX4 119 yX2_attributeSlot, Cond.static yX2_attributeSlot, Cond.initialized RX2, Cond.code yX2_attributeSlot cX2_attributeSlot 1 (some .int), Cond.methodLink RX4 184 yX4_seekWord, Cond.instanceMethod yX4_seekWord, Cond.selects RX4 yX4_seekWord yX4_seekWord, Cond.code yX4_seekWord cX4_seekWord 4 (some .boolean), Cond.methodLink RX4 147 yX2_seek, Cond.instanceMethod yX2_seek, Cond.selects RX2 yX2_seek yX2_seek, Cond.code yX2_seek cX2_seek 7 (some .int), Cond.methodLink RX2 35 yX2_holds, Cond.instanceMethod yX2_holds]
def wsX4_readFork_r4 : List Cond := [Cond.selects RX2 yX2_holds yX2_holds, Cond.code yX2_holds cX2_holds 6 (some .boolean), Cond.methodLink RX2 39 yX2_lengthOf, Cond.instanceMethod yX2_lengthOf, Cond.selects RX2 yX2_lengthOf yX2_lengthOf, Cond.code yX2_lengthOf cX2_lengthOf 2 (some .int), Cond.fieldLink RX2 15 "GainTrees$Names" "lengths" "[I", Cond.methodLink RX2 42 yX2_letterOf, Cond.instanceMethod yX2_letterOf, Cond.selects RX2 yX2_letterOf yX2_letterOf, Cond.code yX2_letterOf cX2_letterOf 3 (some .int), Cond.fieldLink RX2 11 "GainTrees$Names" "letters" "[B", Cond.methodLink RX2 29 yX0_at, Cond.methodLink RX4 140 yX2_valuesOf, Cond.instanceMethod yX2_valuesOf, Cond.selects RX2 yX2_valuesOf yX2_valuesOf, Cond.code yX2_valuesOf cX2_valuesOf 2 (some .int), Cond.fieldLink RX2 26 "GainTrees$Names" "attributes" "I", Cond.fieldLink RX2 19 "GainTrees$Names" "values" "[I", Cond.methodLink RX4 129 yX4_takeSign, Cond.instanceMethod yX4_takeSign, Cond.selects RX4 yX4_takeSign yX4_takeSign, Cond.code yX4_takeSign cX4_takeSign 2 (some .boolean), Cond.methodLink RX4 188 yX4_checkNumber]
def wsX4_readFork_r5 : List Cond := [Cond.instanceMethod yX4_checkNumber, Cond.selects RX4 yX4_checkNumber yX4_checkNumber, Cond.code yX4_checkNumber cX4_checkNumber 1 (some .boolean), Cond.constantLong RX4 191 (-1000000000), Cond.constantLong RX4 193 (1000000000), Cond.methodLink RX4 214 yX9_add, Cond.instanceMethod yX9_add, Cond.selects RX9 yX9_add yX9_add, Cond.code yX9_add cX9_add 5 (some .int), Cond.fieldLink RX9 34 "GainTrees$Tree" "parent" "[I", Cond.fieldLink RX9 37 "GainTrees$Tree" "place" "[I", Cond.fieldLink RX9 22 "GainTrees$Tree" "result" "[I", Cond.fieldLink RX9 25 "GainTrees$Tree" "amount" "[I", Cond.fieldLink RX9 40 "GainTrees$Tree" "counts" "[I", Cond.methodLink RX9 56 yX9_depthBelow, Cond.methodLink RX9 60 yX9_makeLeaf, Cond.instanceMethod yX9_makeLeaf, Cond.selects RX9 yX9_makeLeaf yX9_makeLeaf, Cond.code yX9_makeLeaf cX9_makeLeaf 2 none, Cond.fieldLink RX9 9 "GainTrees$Tree" "attribute" "[I", Cond.fieldLink RX9 15 "GainTrees$Tree" "cut" "[I", Cond.fieldLink RX9 18 "GainTrees$Tree" "byCut" "[Z", Cond.fieldLink RX9 28 "GainTrees$Tree" "kids" "[I", Cond.methodLink RX4 224 yX9_fork]
def wsX4_readFork_r6 : List Cond := [Cond.instanceMethod yX9_fork, Cond.selects RX9 yX9_fork yX9_fork, Cond.code yX9_fork cX9_fork 5 none, Cond.methodLink RX4 228 yX4_readLabel, Cond.instanceMethod yX4_readLabel, Cond.selects RX4 yX4_readLabel yX4_readLabel, Cond.code yX4_readLabel cX4_readLabel 4 (some .boolean), Cond.methodLink RX4 132 yX2_valueSlot, Cond.static yX2_valueSlot, Cond.code yX2_valueSlot cX2_valueSlot 2 (some .int)]
def wsX4_readFork : List Cond := .code yX4_readFork cX4_readFork 6 (some .boolean) :: ((wsX4_readFork_r1 ++ (wsX4_readFork_r2 ++ (wsX4_readFork_r3 ++ (wsX4_readFork_r4 ++ (wsX4_readFork_r5 ++ wsX4_readFork_r6))))) ++ wsX40 ++ wsX20 ++ wsX90 ++ wsX00)
def wsX4_readLeaf_r1 : List Cond := [Cond.fieldLink RX4 198 "GainTrees$Reader" "under" "I", Cond.fieldLink RX4 201 "GainTrees$Reader" "child" "I", Cond.fieldLink RX4 217 "GainTrees$Tree" "result" "[I", Cond.fieldLink RX4 171 "GainTrees$Reader" "value" "I", Cond.methodLink RX4 106 yX4_takeWord, Cond.instanceMethod yX4_takeWord, Cond.selects RX4 yX4_takeWord yX4_takeWord, Cond.initialized RX4, Cond.code yX4_takeWord cX4_takeWord 2 (some .boolean), Cond.methodLink RX4 83 yX4_isWord, Cond.instanceMethod yX4_isWord, Cond.selects RX4 yX4_isWord yX4_isWord, Cond.code yX4_isWord cX4_isWord 3 (some .boolean), Cond.fieldLink RX4 44 "GainTrees$Reader" "kind" "I", Cond.fieldLink RX4 22 "GainTrees$Reader" "to" "I", Cond.fieldLink RX4 28 "GainTrees$Reader" "from" "I", Cond.fieldLink RX4 15 "GainTrees$Reader" "tape" "LGainTrees$Bytes;", Cond.methodLink RX4 71 yJ0_length_8abf5, Cond.instanceMethod yJ0_length_8abf5, Cond.selects RJ0 yJ0_length_8abf5 yJ0_length_8abf5, Cond.initialized RJ0, Cond.code yJ0_length_8abf5 cJ0_length_8abf5 1 (some .int), Cond.fieldLink RJ0 9 "java/lang/String" "value" "[B", Cond.methodLink RJ0 335 yJ0_coder_7d493]
def wsX4_readLeaf_r2 : List Cond := [Cond.instanceMethod yJ0_coder_7d493, Cond.selects RJ0 yJ0_coder_7d493 yJ0_coder_7d493, Cond.code yJ0_coder_7d493 cJ0_coder_7d493 1 (some .byte), Cond.fieldLink RJ0 38 "java/lang/String" "COMPACT_STRINGS" "Z", Cond.fieldLink RJ0 15 "java/lang/String" "coder" "B", Cond.methodLink RX4 77 yJ0_charAt_5068e, Cond.instanceMethod yJ0_charAt_5068e, Cond.selects RJ0 yJ0_charAt_5068e yJ0_charAt_5068e, Cond.code yJ0_charAt_5068e cJ0_charAt_5068e 2 (some .char), Cond.methodLink RJ0 492 yJ0_isLatin1_aae02, Cond.instanceMethod yJ0_isLatin1_aae02, Cond.selects RJ0 yJ0_isLatin1_aae02 yJ0_isLatin1_aae02, Cond.code yJ0_isLatin1_aae02 cJ0_isLatin1_aae02 1 (some .boolean), Cond.methodLink RJ0 495 yJ1_charAt_3b067, Cond.static yJ1_charAt_3b067, Cond.initialized RJ1, Cond.code yJ1_charAt_3b067 cJ1_charAt_3b067 2 (some .char), Cond.methodLink RJ1 9 yJ0_checkIndex_df160, Cond.static yJ0_checkIndex_df160, Cond.code yJ0_checkIndex_df160 cJ0_checkIndex_df160 2 none, Cond.fieldLink RJ0 1053 "jdk/internal/util/Preconditions" "SIOOBE_FORMATTER" "Ljava/util/function/BiFunction;", Cond.methodLink RJ0 1059 yJ3_checkIndex_8e157, Cond.static yJ3_checkIndex_8e157, Cond.initialized RJ3]
def wsX4_readLeaf_r3 : List Cond := [Cond.code yJ3_checkIndex_8e157 cJ3_checkIndex_8e157 3 (some .int), Cond.methodLink RJ0 498 yJ2_charAt_3b067, Cond.static yJ2_charAt_3b067, Cond.initialized RJ2, Cond.code yJ2_charAt_3b067 cJ2_charAt_3b067 2 (some .char), Cond.methodLink RJ2 67 yJ2_checkIndex_2214a, Cond.static yJ2_checkIndex_2214a, Cond.code yJ2_checkIndex_2214a cJ2_checkIndex_2214a 2 none, Cond.methodLink RJ2 48 yJ2_length_9d52b, Cond.static yJ2_length_9d52b, Cond.code yJ2_length_9d52b cJ2_length_9d52b 1 (some .int), Cond.methodLink RJ2 414 yJ0_checkIndex_df160, Cond.methodLink RJ2 71 yJ2_getChar_3b067, Cond.static yJ2_getChar_3b067, Cond.code yJ2_getChar_3b067 cJ2_getChar_3b067 2 (some .char), Cond.fieldLink RJ2 44 "java/lang/StringUTF16" "$assertionsDisabled" "Z", Cond.fieldLink RJ2 59 "java/lang/StringUTF16" "HI_BYTE_SHIFT" "I", Cond.fieldLink RJ2 63 "java/lang/StringUTF16" "LO_BYTE_SHIFT" "I", Cond.methodLink RX4 36 yX0_at, Cond.instanceMethod yX0_at, Cond.selects RX0 yX0_at yX0_at, Cond.initialized RX0, Cond.code yX0_at cX0_at 2 (some .int), Cond.fieldLink RX0 21 "GainTrees$Bytes" "kept" "I"]
def wsX4_readLeaf_r4 : List Cond := [Cond.fieldLink RX0 15 "GainTrees$Bytes" "data" "[B", Cond.methodLink RX4 95 yX4_fail, Cond.instanceMethod yX4_fail, Cond.selects RX4 yX4_fail yX4_fail, Cond.code yX4_fail cX4_fail 2 (some .boolean), Cond.fieldLink RX4 19 "GainTrees$Reader" "fault" "I", Cond.fieldLink RX4 9 "GainTrees$Reader" "faultAt" "I", Cond.methodLink RX4 25 yX4_step, Cond.instanceMethod yX4_step, Cond.selects RX4 yX4_step yX4_step, Cond.code yX4_step cX4_step 2 none, Cond.fieldLink RX4 31 "GainTrees$Bytes" "kept" "I", Cond.methodLink RX4 40 yX4_isBlank, Cond.static yX4_isBlank, Cond.code yX4_isBlank cX4_isBlank 1 (some .boolean), Cond.methodLink RX4 47 yX4_isLetter, Cond.static yX4_isLetter, Cond.code yX4_isLetter cX4_isLetter 1 (some .boolean), Cond.methodLink RX4 50 yX4_stepWord, Cond.instanceMethod yX4_stepWord, Cond.selects RX4 yX4_stepWord yX4_stepWord, Cond.code yX4_stepWord cX4_stepWord 1 none, Cond.methodLink RX4 53 yX4_isDigit, Cond.static yX4_isDigit]
def wsX4_readLeaf_r5 : List Cond := [Cond.code yX4_isDigit cX4_isDigit 1 (some .boolean), Cond.methodLink RX4 56 yX4_stepNumber, Cond.instanceMethod yX4_stepNumber, Cond.selects RX4 yX4_stepNumber yX4_stepNumber, Cond.code yX4_stepNumber cX4_stepNumber 5 none, Cond.fieldLink RX4 63 "GainTrees$Reader" "number" "J", Cond.constantLong RX4 67 (10), Cond.constantLong RX4 69 (1000), Cond.methodLink RX4 59 yX4_stepSign, Cond.instanceMethod yX4_stepSign, Cond.selects RX4 yX4_stepSign yX4_stepSign, Cond.code yX4_stepSign cX4_stepSign 4 none, Cond.methodLink RX4 167 yX4_readClass, Cond.instanceMethod yX4_readClass, Cond.selects RX4 yX4_readClass yX4_readClass, Cond.code yX4_readClass cX4_readClass 2 (some .boolean), Cond.fieldLink RX4 113 "GainTrees$Names" "classes" "I", Cond.methodLink RX4 184 yX4_seekWord, Cond.instanceMethod yX4_seekWord, Cond.selects RX4 yX4_seekWord yX4_seekWord, Cond.code yX4_seekWord cX4_seekWord 4 (some .boolean), Cond.methodLink RX4 147 yX2_seek, Cond.instanceMethod yX2_seek, Cond.selects RX2 yX2_seek yX2_seek]
def wsX4_readLeaf_r6 : List Cond := [Cond.initialized RX2, Cond.code yX2_seek cX2_seek 7 (some .int), Cond.methodLink RX2 35 yX2_holds, Cond.instanceMethod yX2_holds, Cond.selects RX2 yX2_holds yX2_holds, Cond.code yX2_holds cX2_holds 6 (some .boolean), Cond.methodLink RX2 39 yX2_lengthOf, Cond.instanceMethod yX2_lengthOf, Cond.selects RX2 yX2_lengthOf yX2_lengthOf, Cond.code yX2_lengthOf cX2_lengthOf 2 (some .int), Cond.fieldLink RX2 15 "GainTrees$Names" "lengths" "[I", Cond.methodLink RX2 42 yX2_letterOf, Cond.instanceMethod yX2_letterOf, Cond.selects RX2 yX2_letterOf yX2_letterOf, Cond.code yX2_letterOf cX2_letterOf 3 (some .int), Cond.fieldLink RX2 11 "GainTrees$Names" "letters" "[B", Cond.methodLink RX2 29 yX0_at, Cond.methodLink RX4 214 yX9_add, Cond.instanceMethod yX9_add, Cond.selects RX9 yX9_add yX9_add, Cond.initialized RX9, Cond.code yX9_add cX9_add 5 (some .int), Cond.fieldLink RX9 52 "GainTrees$Tree" "nodes" "I", Cond.fieldLink RX9 31 "GainTrees$Tree" "depth" "[I"]
def wsX4_readLeaf_r7 : List Cond := [Cond.fieldLink RX9 34 "GainTrees$Tree" "parent" "[I", Cond.fieldLink RX9 37 "GainTrees$Tree" "place" "[I", Cond.fieldLink RX9 22 "GainTrees$Tree" "result" "[I", Cond.fieldLink RX9 25 "GainTrees$Tree" "amount" "[I", Cond.fieldLink RX9 40 "GainTrees$Tree" "counts" "[I", Cond.methodLink RX9 56 yX9_depthBelow, Cond.instanceMethod yX9_depthBelow, Cond.selects RX9 yX9_depthBelow yX9_depthBelow, Cond.code yX9_depthBelow cX9_depthBelow 2 (some .int), Cond.methodLink RX9 60 yX9_makeLeaf, Cond.instanceMethod yX9_makeLeaf, Cond.selects RX9 yX9_makeLeaf yX9_makeLeaf, Cond.code yX9_makeLeaf cX9_makeLeaf 2 none, Cond.fieldLink RX9 9 "GainTrees$Tree" "attribute" "[I", Cond.fieldLink RX9 15 "GainTrees$Tree" "cut" "[I", Cond.fieldLink RX9 18 "GainTrees$Tree" "byCut" "[Z", Cond.fieldLink RX9 28 "GainTrees$Tree" "kids" "[I"]
def wsX4_readLeaf : List Cond := .code yX4_readLeaf cX4_readLeaf 4 (some .boolean) :: ((wsX4_readLeaf_r1 ++ (wsX4_readLeaf_r2 ++ (wsX4_readLeaf_r3 ++ (wsX4_readLeaf_r4 ++ (wsX4_readLeaf_r5 ++ (wsX4_readLeaf_r6 ++ wsX4_readLeaf_r7)))))) ++ wsX40 ++ wsX90 ++ wsX00 ++ wsX20)
def wsX4_closeForks_r1 : List Cond := [Cond.fieldLink RX4 231 "GainTrees$Tree" "nodes" "I", Cond.methodLink RX4 234 Lib.Math.max.name, Cond.static Lib.Math.max.name, Cond.initialized "java/lang/Math", Cond.code Lib.Math.max.name Lib.Math.max.code 2 (some .int), Cond.fieldLink RX4 239 "GainTrees$Tree" "parent" "[I", Cond.fieldLink RX4 198 "GainTrees$Reader" "under" "I", Cond.fieldLink RX4 242 "GainTrees$Tree" "place" "[I", Cond.fieldLink RX4 201 "GainTrees$Reader" "child" "I", Cond.fieldLink RX4 245 "GainTrees$Tree" "attribute" "[I", Cond.fieldLink RX4 248 "GainTrees$Tree" "byCut" "[Z", Cond.fieldLink RX4 252 "GainTrees$Tree" "kids" "[I", Cond.methodLink RX4 106 yX4_takeWord, Cond.instanceMethod yX4_takeWord, Cond.selects RX4 yX4_takeWord yX4_takeWord, Cond.initialized RX4, Cond.code yX4_takeWord cX4_takeWord 2 (some .boolean), Cond.methodLink RX4 83 yX4_isWord, Cond.instanceMethod yX4_isWord, Cond.selects RX4 yX4_isWord yX4_isWord, Cond.code yX4_isWord cX4_isWord 3 (some .boolean), Cond.fieldLink RX4 44 "GainTrees$Reader" "kind" "I", Cond.fieldLink RX4 22 "GainTrees$Reader" "to" "I", Cond.fieldLink RX4 28 "GainTrees$Reader" "from" "I"]
def wsX4_closeForks_r2 : List Cond := [Cond.fieldLink RX4 15 "GainTrees$Reader" "tape" "LGainTrees$Bytes;", Cond.methodLink RX4 71 yJ0_length_8abf5, Cond.instanceMethod yJ0_length_8abf5, Cond.selects RJ0 yJ0_length_8abf5 yJ0_length_8abf5, Cond.initialized RJ0, Cond.code yJ0_length_8abf5 cJ0_length_8abf5 1 (some .int), Cond.fieldLink RJ0 9 "java/lang/String" "value" "[B", Cond.methodLink RJ0 335 yJ0_coder_7d493, Cond.instanceMethod yJ0_coder_7d493, Cond.selects RJ0 yJ0_coder_7d493 yJ0_coder_7d493, Cond.code yJ0_coder_7d493 cJ0_coder_7d493 1 (some .byte), Cond.fieldLink RJ0 38 "java/lang/String" "COMPACT_STRINGS" "Z", Cond.fieldLink RJ0 15 "java/lang/String" "coder" "B", Cond.methodLink RX4 77 yJ0_charAt_5068e, Cond.instanceMethod yJ0_charAt_5068e, Cond.selects RJ0 yJ0_charAt_5068e yJ0_charAt_5068e, Cond.code yJ0_charAt_5068e cJ0_charAt_5068e 2 (some .char), Cond.methodLink RJ0 492 yJ0_isLatin1_aae02, Cond.instanceMethod yJ0_isLatin1_aae02, Cond.selects RJ0 yJ0_isLatin1_aae02 yJ0_isLatin1_aae02, Cond.code yJ0_isLatin1_aae02 cJ0_isLatin1_aae02 1 (some .boolean), Cond.methodLink RJ0 495 yJ1_charAt_3b067, Cond.static yJ1_charAt_3b067, Cond.initialized RJ1]
def wsX4_closeForks_r3 : List Cond := [Cond.code yJ1_charAt_3b067 cJ1_charAt_3b067 2 (some .char), Cond.methodLink RJ1 9 yJ0_checkIndex_df160, Cond.static yJ0_checkIndex_df160, Cond.code yJ0_checkIndex_df160 cJ0_checkIndex_df160 2 none, Cond.fieldLink RJ0 1053 "jdk/internal/util/Preconditions" "SIOOBE_FORMATTER" "Ljava/util/function/BiFunction;", Cond.methodLink RJ0 1059 yJ3_checkIndex_8e157, Cond.static yJ3_checkIndex_8e157, Cond.initialized RJ3, Cond.code yJ3_checkIndex_8e157 cJ3_checkIndex_8e157 3 (some .int), Cond.methodLink RJ0 498 yJ2_charAt_3b067, Cond.static yJ2_charAt_3b067, Cond.initialized RJ2, Cond.code yJ2_charAt_3b067 cJ2_charAt_3b067 2 (some .char), Cond.methodLink RJ2 67 yJ2_checkIndex_2214a, Cond.static yJ2_checkIndex_2214a, Cond.code yJ2_checkIndex_2214a cJ2_checkIndex_2214a 2 none, Cond.methodLink RJ2 48 yJ2_length_9d52b, Cond.static yJ2_length_9d52b, Cond.code yJ2_length_9d52b cJ2_length_9d52b 1 (some .int), Cond.methodLink RJ2 414 yJ0_checkIndex_df160, Cond.methodLink RJ2 71 yJ2_getChar_3b067, Cond.static yJ2_getChar_3b067, Cond.code yJ2_getChar_3b067 cJ2_getChar_3b067 2 (some .char), Cond.fieldLink RJ2 44 "java/lang/StringUTF16" "$assertionsDisabled" "Z"]
def wsX4_closeForks_r4 : List Cond := [Cond.fieldLink RJ2 59 "java/lang/StringUTF16" "HI_BYTE_SHIFT" "I", Cond.fieldLink RJ2 63 "java/lang/StringUTF16" "LO_BYTE_SHIFT" "I", Cond.methodLink RX4 36 yX0_at, Cond.instanceMethod yX0_at, Cond.selects RX0 yX0_at yX0_at, Cond.initialized RX0, Cond.code yX0_at cX0_at 2 (some .int), Cond.fieldLink RX0 21 "GainTrees$Bytes" "kept" "I", Cond.fieldLink RX0 15 "GainTrees$Bytes" "data" "[B", Cond.methodLink RX4 95 yX4_fail, Cond.instanceMethod yX4_fail, Cond.selects RX4 yX4_fail yX4_fail, Cond.code yX4_fail cX4_fail 2 (some .boolean), Cond.fieldLink RX4 19 "GainTrees$Reader" "fault" "I", Cond.fieldLink RX4 9 "GainTrees$Reader" "faultAt" "I", Cond.methodLink RX4 25 yX4_step, Cond.instanceMethod yX4_step, Cond.selects RX4 yX4_step yX4_step, Cond.code yX4_step cX4_step 2 none, Cond.fieldLink RX4 31 "GainTrees$Bytes" "kept" "I", Cond.methodLink RX4 40 yX4_isBlank, Cond.static yX4_isBlank, Cond.code yX4_isBlank cX4_isBlank 1 (some .boolean), Cond.methodLink RX4 47 yX4_isLetter]
def wsX4_closeForks_r5 : List Cond := [Cond.static yX4_isLetter, Cond.code yX4_isLetter cX4_isLetter 1 (some .boolean), Cond.methodLink RX4 50 yX4_stepWord, Cond.instanceMethod yX4_stepWord, Cond.selects RX4 yX4_stepWord yX4_stepWord, Cond.code yX4_stepWord cX4_stepWord 1 none, Cond.methodLink RX4 53 yX4_isDigit, Cond.static yX4_isDigit, Cond.code yX4_isDigit cX4_isDigit 1 (some .boolean), Cond.methodLink RX4 56 yX4_stepNumber, Cond.instanceMethod yX4_stepNumber, Cond.selects RX4 yX4_stepNumber yX4_stepNumber, Cond.code yX4_stepNumber cX4_stepNumber 5 none, Cond.fieldLink RX4 63 "GainTrees$Reader" "number" "J", Cond.constantLong RX4 67 (10), Cond.constantLong RX4 69 (1000), Cond.methodLink RX4 59 yX4_stepSign, Cond.instanceMethod yX4_stepSign, Cond.selects RX4 yX4_stepSign yX4_stepSign, Cond.code yX4_stepSign cX4_stepSign 4 none, Cond.methodLink RX4 228 yX4_readLabel, Cond.instanceMethod yX4_readLabel, Cond.selects RX4 yX4_readLabel yX4_readLabel, Cond.code yX4_readLabel cX4_readLabel 4 (some .boolean)]
def wsX4_closeForks_r6 : List Cond := [Cond.methodLink RX4 132 yX2_valueSlot, Cond.static yX2_valueSlot, Cond.initialized RX2, Cond.code yX2_valueSlot cX2_valueSlot 2 (some .int), Cond.methodLink RX4 184 yX4_seekWord, Cond.instanceMethod yX4_seekWord, Cond.selects RX4 yX4_seekWord yX4_seekWord, Cond.code yX4_seekWord cX4_seekWord 4 (some .boolean), Cond.fieldLink RX4 171 "GainTrees$Reader" "value" "I", Cond.methodLink RX4 147 yX2_seek, Cond.instanceMethod yX2_seek, Cond.selects RX2 yX2_seek yX2_seek, Cond.code yX2_seek cX2_seek 7 (some .int), Cond.methodLink RX2 35 yX2_holds, Cond.instanceMethod yX2_holds, Cond.selects RX2 yX2_holds yX2_holds, Cond.code yX2_holds cX2_holds 6 (some .boolean), Cond.methodLink RX2 39 yX2_lengthOf, Cond.instanceMethod yX2_lengthOf, Cond.selects RX2 yX2_lengthOf yX2_lengthOf, Cond.code yX2_lengthOf cX2_lengthOf 2 (some .int), Cond.fieldLink RX2 15 "GainTrees$Names" "lengths" "[I", Cond.methodLink RX2 42 yX2_letterOf, Cond.instanceMethod yX2_letterOf]
def wsX4_closeForks_r7 : List Cond := [Cond.selects RX2 yX2_letterOf yX2_letterOf, Cond.code yX2_letterOf cX2_letterOf 3 (some .int), Cond.fieldLink RX2 11 "GainTrees$Names" "letters" "[B", Cond.methodLink RX2 29 yX0_at, Cond.methodLink RX4 129 yX4_takeSign, Cond.instanceMethod yX4_takeSign, Cond.selects RX4 yX4_takeSign yX4_takeSign, Cond.code yX4_takeSign cX4_takeSign 2 (some .boolean)]
def wsX4_closeForks : List Cond := .code yX4_closeForks cX4_closeForks 7 (some .boolean) :: ((wsX4_closeForks_r1 ++ (wsX4_closeForks_r2 ++ (wsX4_closeForks_r3 ++ (wsX4_closeForks_r4 ++ (wsX4_closeForks_r5 ++ (wsX4_closeForks_r6 ++ wsX4_closeForks_r7)))))) ++ wsX90 ++ wsX40 ++ wsX00 ++ wsX20)
def wsX4_readTree_r1 : List Cond := [Cond.fieldLink RX4 198 "GainTrees$Reader" "under" "I", Cond.fieldLink RX4 201 "GainTrees$Reader" "child" "I", Cond.fieldLink RX4 44 "GainTrees$Reader" "kind" "I", Cond.methodLink RX4 98 yX4_begin, Cond.instanceMethod yX4_begin, Cond.selects RX4 yX4_begin yX4_begin, Cond.initialized RX4, Cond.code yX4_begin cX4_begin 1 none, Cond.fieldLink RX4 19 "GainTrees$Reader" "fault" "I", Cond.fieldLink RX4 9 "GainTrees$Reader" "faultAt" "I", Cond.fieldLink RX4 22 "GainTrees$Reader" "to" "I", Cond.methodLink RX4 25 yX4_step, Cond.instanceMethod yX4_step, Cond.selects RX4 yX4_step yX4_step, Cond.code yX4_step cX4_step 2 none, Cond.fieldLink RX4 15 "GainTrees$Reader" "tape" "LGainTrees$Bytes;", Cond.fieldLink RX4 31 "GainTrees$Bytes" "kept" "I", Cond.fieldLink RX4 28 "GainTrees$Reader" "from" "I", Cond.methodLink RX4 36 yX0_at, Cond.instanceMethod yX0_at, Cond.selects RX0 yX0_at yX0_at, Cond.initialized RX0, Cond.code yX0_at cX0_at 2 (some .int), Cond.fieldLink RX0 21 "GainTrees$Bytes" "kept" "I"]
def wsX4_readTree_r2 : List Cond := [Cond.fieldLink RX0 15 "GainTrees$Bytes" "data" "[B", Cond.methodLink RX4 40 yX4_isBlank, Cond.static yX4_isBlank, Cond.code yX4_isBlank cX4_isBlank 1 (some .boolean), Cond.methodLink RX4 47 yX4_isLetter, Cond.static yX4_isLetter, Cond.code yX4_isLetter cX4_isLetter 1 (some .boolean), Cond.methodLink RX4 50 yX4_stepWord, Cond.instanceMethod yX4_stepWord, Cond.selects RX4 yX4_stepWord yX4_stepWord, Cond.code yX4_stepWord cX4_stepWord 1 none, Cond.methodLink RX4 53 yX4_isDigit, Cond.static yX4_isDigit, Cond.code yX4_isDigit cX4_isDigit 1 (some .boolean), Cond.methodLink RX4 56 yX4_stepNumber, Cond.instanceMethod yX4_stepNumber, Cond.selects RX4 yX4_stepNumber yX4_stepNumber, Cond.code yX4_stepNumber cX4_stepNumber 5 none, Cond.fieldLink RX4 63 "GainTrees$Reader" "number" "J", Cond.constantLong RX4 67 (10), Cond.constantLong RX4 69 (1000), Cond.methodLink RX4 59 yX4_stepSign, Cond.instanceMethod yX4_stepSign, Cond.selects RX4 yX4_stepSign yX4_stepSign]
def wsX4_readTree_r3 : List Cond := [Cond.code yX4_stepSign cX4_stepSign 4 none, Cond.methodLink RX4 195 yX9_wipe, Cond.instanceMethod yX9_wipe, Cond.selects RX9 yX9_wipe yX9_wipe, Cond.initialized RX9, Cond.code yX9_wipe cX9_wipe 1 none, Cond.fieldLink RX9 52 "GainTrees$Tree" "nodes" "I", Cond.methodLink RX4 83 yX4_isWord, Cond.instanceMethod yX4_isWord, Cond.selects RX4 yX4_isWord yX4_isWord, Cond.code yX4_isWord cX4_isWord 3 (some .boolean), Cond.methodLink RX4 71 yJ0_length_8abf5, Cond.instanceMethod yJ0_length_8abf5, Cond.selects RJ0 yJ0_length_8abf5 yJ0_length_8abf5, Cond.initialized RJ0, Cond.code yJ0_length_8abf5 cJ0_length_8abf5 1 (some .int), Cond.fieldLink RJ0 9 "java/lang/String" "value" "[B", Cond.methodLink RJ0 335 yJ0_coder_7d493, Cond.instanceMethod yJ0_coder_7d493, Cond.selects RJ0 yJ0_coder_7d493 yJ0_coder_7d493, Cond.code yJ0_coder_7d493 cJ0_coder_7d493 1 (some .byte), Cond.fieldLink RJ0 38 "java/lang/String" "COMPACT_STRINGS" "Z", Cond.fieldLink RJ0 15 "java/lang/String" "coder" "B", Cond.methodLink RX4 77 yJ0_charAt_5068e]
def wsX4_readTree_r4 : List Cond := [Cond.instanceMethod yJ0_charAt_5068e, Cond.selects RJ0 yJ0_charAt_5068e yJ0_charAt_5068e, Cond.code yJ0_charAt_5068e cJ0_charAt_5068e 2 (some .char), Cond.methodLink RJ0 492 yJ0_isLatin1_aae02, Cond.instanceMethod yJ0_isLatin1_aae02, Cond.selects RJ0 yJ0_isLatin1_aae02 yJ0_isLatin1_aae02, Cond.code yJ0_isLatin1_aae02 cJ0_isLatin1_aae02 1 (some .boolean), Cond.methodLink RJ0 495 yJ1_charAt_3b067, Cond.static yJ1_charAt_3b067, Cond.initialized RJ1, Cond.code yJ1_charAt_3b067 cJ1_charAt_3b067 2 (some .char), Cond.methodLink RJ1 9 yJ0_checkIndex_df160, Cond.static yJ0_checkIndex_df160, Cond.code yJ0_checkIndex_df160 cJ0_checkIndex_df160 2 none, Cond.fieldLink RJ0 1053 "jdk/internal/util/Preconditions" "SIOOBE_FORMATTER" "Ljava/util/function/BiFunction;", Cond.methodLink RJ0 1059 yJ3_checkIndex_8e157, Cond.static yJ3_checkIndex_8e157, Cond.initialized RJ3, Cond.code yJ3_checkIndex_8e157 cJ3_checkIndex_8e157 3 (some .int), Cond.methodLink RJ0 498 yJ2_charAt_3b067, Cond.static yJ2_charAt_3b067, Cond.initialized RJ2, Cond.code yJ2_charAt_3b067 cJ2_charAt_3b067 2 (some .char), Cond.methodLink RJ2 67 yJ2_checkIndex_2214a]
def wsX4_readTree_r5 : List Cond := [Cond.static yJ2_checkIndex_2214a, Cond.code yJ2_checkIndex_2214a cJ2_checkIndex_2214a 2 none, Cond.methodLink RJ2 48 yJ2_length_9d52b, Cond.static yJ2_length_9d52b, Cond.code yJ2_length_9d52b cJ2_length_9d52b 1 (some .int), Cond.methodLink RJ2 414 yJ0_checkIndex_df160, Cond.methodLink RJ2 71 yJ2_getChar_3b067, Cond.static yJ2_getChar_3b067, Cond.code yJ2_getChar_3b067 cJ2_getChar_3b067 2 (some .char), Cond.fieldLink RJ2 44 "java/lang/StringUTF16" "$assertionsDisabled" "Z", Cond.fieldLink RJ2 59 "java/lang/StringUTF16" "HI_BYTE_SHIFT" "I", Cond.fieldLink RJ2 63 "java/lang/StringUTF16" "LO_BYTE_SHIFT" "I", Cond.methodLink RX4 204 yX4_readFork, Cond.instanceMethod yX4_readFork, Cond.selects RX4 yX4_readFork yX4_readFork, Cond.code yX4_readFork cX4_readFork 6 (some .boolean), Cond.fieldLink RX4 177 "GainTrees$Names" "attributes" "I", Cond.fieldLink RX4 171 "GainTrees$Reader" "value" "I", Cond.methodLink RX4 221 yX9_depthBelow, Cond.instanceMethod yX9_depthBelow, Cond.selects RX9 yX9_depthBelow yX9_depthBelow, Cond.code yX9_depthBelow cX9_depthBelow 2 (some .int), Cond.fieldLink RX9 31 "GainTrees$Tree" "depth" "[I", Cond.methodLink RX4 95 yX4_fail]
def wsX4_readTree_r6 : List Cond := [Cond.instanceMethod yX4_fail, Cond.selects RX4 yX4_fail yX4_fail, Cond.code yX4_fail cX4_fail 2 (some .boolean), Cond.methodLink RX4 119 yX2_attributeSlot, Cond.static yX2_attributeSlot, Cond.initialized RX2, Cond.code yX2_attributeSlot cX2_attributeSlot 1 (some .int), Cond.methodLink RX4 184 yX4_seekWord, Cond.instanceMethod yX4_seekWord, Cond.selects RX4 yX4_seekWord yX4_seekWord, Cond.code yX4_seekWord cX4_seekWord 4 (some .boolean), Cond.methodLink RX4 147 yX2_seek, Cond.instanceMethod yX2_seek, Cond.selects RX2 yX2_seek yX2_seek, Cond.code yX2_seek cX2_seek 7 (some .int), Cond.methodLink RX2 35 yX2_holds, Cond.instanceMethod yX2_holds, Cond.selects RX2 yX2_holds yX2_holds, Cond.code yX2_holds cX2_holds 6 (some .boolean), Cond.methodLink RX2 39 yX2_lengthOf, Cond.instanceMethod yX2_lengthOf, Cond.selects RX2 yX2_lengthOf yX2_lengthOf, Cond.code yX2_lengthOf cX2_lengthOf 2 (some .int), Cond.fieldLink RX2 15 "GainTrees$Names" "lengths" "[I"]
def wsX4_readTree_r7 : List Cond := [Cond.methodLink RX2 42 yX2_letterOf, Cond.instanceMethod yX2_letterOf, Cond.selects RX2 yX2_letterOf yX2_letterOf, Cond.code yX2_letterOf cX2_letterOf 3 (some .int), Cond.fieldLink RX2 11 "GainTrees$Names" "letters" "[B", Cond.methodLink RX2 29 yX0_at, Cond.methodLink RX4 140 yX2_valuesOf, Cond.instanceMethod yX2_valuesOf, Cond.selects RX2 yX2_valuesOf yX2_valuesOf, Cond.code yX2_valuesOf cX2_valuesOf 2 (some .int), Cond.fieldLink RX2 26 "GainTrees$Names" "attributes" "I", Cond.fieldLink RX2 19 "GainTrees$Names" "values" "[I", Cond.methodLink RX4 129 yX4_takeSign, Cond.instanceMethod yX4_takeSign, Cond.selects RX4 yX4_takeSign yX4_takeSign, Cond.code yX4_takeSign cX4_takeSign 2 (some .boolean), Cond.methodLink RX4 188 yX4_checkNumber, Cond.instanceMethod yX4_checkNumber, Cond.selects RX4 yX4_checkNumber yX4_checkNumber, Cond.code yX4_checkNumber cX4_checkNumber 1 (some .boolean), Cond.constantLong RX4 191 (-1000000000), Cond.constantLong RX4 193 (1000000000), Cond.methodLink RX4 214 yX9_add, Cond.instanceMethod yX9_add]
def wsX4_readTree_r8 : List Cond := [Cond.selects RX9 yX9_add yX9_add, Cond.code yX9_add cX9_add 5 (some .int), Cond.fieldLink RX9 34 "GainTrees$Tree" "parent" "[I", Cond.fieldLink RX9 37 "GainTrees$Tree" "place" "[I", Cond.fieldLink RX9 22 "GainTrees$Tree" "result" "[I", Cond.fieldLink RX9 25 "GainTrees$Tree" "amount" "[I", Cond.fieldLink RX9 40 "GainTrees$Tree" "counts" "[I", Cond.methodLink RX9 56 yX9_depthBelow, Cond.methodLink RX9 60 yX9_makeLeaf, Cond.instanceMethod yX9_makeLeaf, Cond.selects RX9 yX9_makeLeaf yX9_makeLeaf, Cond.code yX9_makeLeaf cX9_makeLeaf 2 none, Cond.fieldLink RX9 9 "GainTrees$Tree" "attribute" "[I", Cond.fieldLink RX9 15 "GainTrees$Tree" "cut" "[I", Cond.fieldLink RX9 18 "GainTrees$Tree" "byCut" "[Z", Cond.fieldLink RX9 28 "GainTrees$Tree" "kids" "[I", Cond.methodLink RX4 224 yX9_fork, Cond.instanceMethod yX9_fork, Cond.selects RX9 yX9_fork yX9_fork, Cond.code yX9_fork cX9_fork 5 none, Cond.methodLink RX4 228 yX4_readLabel, Cond.instanceMethod yX4_readLabel, Cond.selects RX4 yX4_readLabel yX4_readLabel, Cond.code yX4_readLabel cX4_readLabel 4 (some .boolean)]
def wsX4_readTree_r9 : List Cond := [Cond.methodLink RX4 132 yX2_valueSlot, Cond.static yX2_valueSlot, Cond.code yX2_valueSlot cX2_valueSlot 2 (some .int), Cond.methodLink RX4 208 yX4_readLeaf, Cond.instanceMethod yX4_readLeaf, Cond.selects RX4 yX4_readLeaf yX4_readLeaf, Cond.code yX4_readLeaf cX4_readLeaf 4 (some .boolean), Cond.fieldLink RX4 217 "GainTrees$Tree" "result" "[I", Cond.methodLink RX4 106 yX4_takeWord, Cond.instanceMethod yX4_takeWord, Cond.selects RX4 yX4_takeWord yX4_takeWord, Cond.code yX4_takeWord cX4_takeWord 2 (some .boolean), Cond.methodLink RX4 167 yX4_readClass, Cond.instanceMethod yX4_readClass, Cond.selects RX4 yX4_readClass yX4_readClass, Cond.code yX4_readClass cX4_readClass 2 (some .boolean), Cond.fieldLink RX4 113 "GainTrees$Names" "classes" "I", Cond.methodLink RX4 211 yX4_closeForks, Cond.instanceMethod yX4_closeForks, Cond.selects RX4 yX4_closeForks yX4_closeForks, Cond.code yX4_closeForks cX4_closeForks 7 (some .boolean), Cond.fieldLink RX4 231 "GainTrees$Tree" "nodes" "I", Cond.methodLink RX4 234 Lib.Math.max.name, Cond.static Lib.Math.max.name]
def wsX4_readTree_r10 : List Cond := [Cond.initialized "java/lang/Math", Cond.code Lib.Math.max.name Lib.Math.max.code 2 (some .int), Cond.fieldLink RX4 239 "GainTrees$Tree" "parent" "[I", Cond.fieldLink RX4 242 "GainTrees$Tree" "place" "[I", Cond.fieldLink RX4 245 "GainTrees$Tree" "attribute" "[I", Cond.fieldLink RX4 248 "GainTrees$Tree" "byCut" "[Z", Cond.fieldLink RX4 252 "GainTrees$Tree" "kids" "[I"]
def wsX4_readTree : List Cond := .code yX4_readTree cX4_readTree 4 (some .boolean) :: ((wsX4_readTree_r1 ++ (wsX4_readTree_r2 ++ (wsX4_readTree_r3 ++ (wsX4_readTree_r4 ++ (wsX4_readTree_r5 ++ (wsX4_readTree_r6 ++ (wsX4_readTree_r7 ++ (wsX4_readTree_r8 ++ (wsX4_readTree_r9 ++ wsX4_readTree_r10))))))))) ++ wsX40 ++ wsX00 ++ wsX90 ++ wsX20)
def wsX5_init : List Cond := .code yX5_init cX5_init 1 none :: ([.methodLink RX5 3 objectInit, .instanceMethod objectInit, .code objectInit ⟨#[0xb1]⟩ 1 none, .arrayClass .int, .fieldLink RX5 11 "GainTrees$Rules" "attribute" "[I", .fieldLink RX5 15 "GainTrees$Rules" "sort" "[I", .fieldLink RX5 18 "GainTrees$Rules" "bound" "[I", .fieldLink RX5 21 "GainTrees$Rules" "start" "[I", .fieldLink RX5 24 "GainTrees$Rules" "size" "[I", .fieldLink RX5 27 "GainTrees$Rules" "ranked" "[I", .fieldLink RX5 30 "GainTrees$Rules" "result" "[I", .fieldLink RX5 33 "GainTrees$Rules" "covered" "[I", .fieldLink RX5 36 "GainTrees$Rules" "right" "[I", .fieldLink RX5 39 "GainTrees$Rules" "misses" "[I", .fieldLink RX5 42 "GainTrees$Rules" "missed" "[I", .fieldLink RX5 45 "GainTrees$Rules" "coveredWithout" "[I", .fieldLink RX5 48 "GainTrees$Rules" "rightWithout" "[I", .arrayClass .boolean, .fieldLink RX5 51 "GainTrees$Rules" "gone" "[Z", .fieldLink RX5 55 "GainTrees$Rules" "arrived" "[I"] ++ wsX50)
def wsX5_drop : List Cond := .code yX5_drop cX5_drop 1 none :: ([.fieldLink RX5 58 "GainTrees$Rules" "many" "I", .fieldLink RX5 62 "GainTrees$Rules" "stand" "Z", .fieldLink RX5 66 "GainTrees$Rules" "otherwise" "I"] ++ wsX50)
def wsX9_childOf : List Cond := .code yX9_childOf cX9_childOf 5 (some .int) :: ([.fieldLink RX9 52 "GainTrees$Tree" "nodes" "I", .fieldLink RX9 43 "GainTrees$Tree" "after" "[I"] ++ wsX90)
def wsX9_childFor : List Cond := .code yX9_childFor cX9_childFor 5 (some .int) :: ([.fieldLink RX9 9 "GainTrees$Tree" "attribute" "[I", .fieldLink RX9 18 "GainTrees$Tree" "byCut" "[Z", .fieldLink RX9 15 "GainTrees$Tree" "cut" "[I", .methodLink RX9 64 yX8_cell, .instanceMethod yX8_cell, .selects RX8 yX8_cell yX8_cell, .initialized RX8, .code yX8_cell cX8_cell 3 (some .int), .fieldLink RX8 15 "GainTrees$Table" "most" "I", .fieldLink RX8 21 "GainTrees$Table" "cells" "[I", .methodLink RX8 25 yX8_isColumn, .static yX8_isColumn, .code yX8_isColumn cX8_isColumn 1 (some .boolean), .methodLink RX9 70 yX9_childOf, .instanceMethod yX9_childOf, .selects RX9 yX9_childOf yX9_childOf, .initialized RX9, .code yX9_childOf cX9_childOf 5 (some .int), .fieldLink RX9 52 "GainTrees$Tree" "nodes" "I", .fieldLink RX9 43 "GainTrees$Tree" "after" "[I"] ++ wsX90 ++ wsX80)
def wsX9_leafOf_r1 : List Cond := [Cond.fieldLink RX9 28 "GainTrees$Tree" "kids" "[I", Cond.methodLink RX9 73 yX9_childFor, Cond.instanceMethod yX9_childFor, Cond.selects RX9 yX9_childFor yX9_childFor, Cond.initialized RX9, Cond.code yX9_childFor cX9_childFor 5 (some .int), Cond.fieldLink RX9 9 "GainTrees$Tree" "attribute" "[I", Cond.fieldLink RX9 18 "GainTrees$Tree" "byCut" "[Z", Cond.fieldLink RX9 15 "GainTrees$Tree" "cut" "[I", Cond.methodLink RX9 64 yX8_cell, Cond.instanceMethod yX8_cell, Cond.selects RX8 yX8_cell yX8_cell, Cond.initialized RX8, Cond.code yX8_cell cX8_cell 3 (some .int), Cond.fieldLink RX8 15 "GainTrees$Table" "most" "I", Cond.fieldLink RX8 21 "GainTrees$Table" "cells" "[I", Cond.methodLink RX8 25 yX8_isColumn, Cond.static yX8_isColumn, Cond.code yX8_isColumn cX8_isColumn 1 (some .boolean), Cond.methodLink RX9 70 yX9_childOf, Cond.instanceMethod yX9_childOf, Cond.selects RX9 yX9_childOf yX9_childOf, Cond.code yX9_childOf cX9_childOf 5 (some .int), Cond.fieldLink RX9 52 "GainTrees$Tree" "nodes" "I"]
def wsX9_leafOf_r2 : List Cond := [Cond.fieldLink RX9 43 "GainTrees$Tree" "after" "[I"]
def wsX9_leafOf : List Cond := .code yX9_leafOf cX9_leafOf 5 (some .int) :: ((wsX9_leafOf_r1 ++ wsX9_leafOf_r2) ++ wsX90 ++ wsX80)
def wsX5_setCondition : List Cond := .code yX5_setCondition cX5_setCondition 5 none :: ([.fieldLink RX5 11 "GainTrees$Rules" "attribute" "[I", .fieldLink RX5 124 "GainTrees$Tree" "attribute" "[I", .fieldLink RX5 125 "GainTrees$Tree" "byCut" "[Z", .fieldLink RX5 15 "GainTrees$Rules" "sort" "[I", .fieldLink RX5 18 "GainTrees$Rules" "bound" "[I", .fieldLink RX5 128 "GainTrees$Tree" "cut" "[I"] ++ wsX50 ++ wsX90)
def wsX5_holds : List Cond := .code yX5_holds cX5_holds 5 (some .boolean) :: ([.fieldLink RX5 11 "GainTrees$Rules" "attribute" "[I", .fieldLink RX5 15 "GainTrees$Rules" "sort" "[I", .fieldLink RX5 18 "GainTrees$Rules" "bound" "[I", .methodLink RX5 131 yX8_cell, .instanceMethod yX8_cell, .selects RX8 yX8_cell yX8_cell, .initialized RX8, .code yX8_cell cX8_cell 3 (some .int), .fieldLink RX8 15 "GainTrees$Table" "most" "I", .fieldLink RX8 21 "GainTrees$Table" "cells" "[I", .methodLink RX8 25 yX8_isColumn, .static yX8_isColumn, .code yX8_isColumn cX8_isColumn 1 (some .boolean)] ++ wsX50 ++ wsX80)
def wsX5_countMisses_r1 : List Cond := [Cond.fieldLink RX5 33 "GainTrees$Rules" "covered" "[I", Cond.fieldLink RX5 36 "GainTrees$Rules" "right" "[I", Cond.fieldLink RX5 24 "GainTrees$Rules" "size" "[I", Cond.fieldLink RX5 51 "GainTrees$Rules" "gone" "[Z", Cond.fieldLink RX5 77 "GainTrees$Table" "size" "I", Cond.fieldLink RX5 39 "GainTrees$Rules" "misses" "[I", Cond.fieldLink RX5 42 "GainTrees$Rules" "missed" "[I", Cond.fieldLink RX5 21 "GainTrees$Rules" "start" "[I", Cond.fieldLink RX5 30 "GainTrees$Rules" "result" "[I", Cond.methodLink RX5 134 yX5_holds, Cond.instanceMethod yX5_holds, Cond.selects RX5 yX5_holds yX5_holds, Cond.initialized RX5, Cond.code yX5_holds cX5_holds 5 (some .boolean), Cond.fieldLink RX5 11 "GainTrees$Rules" "attribute" "[I", Cond.fieldLink RX5 15 "GainTrees$Rules" "sort" "[I", Cond.fieldLink RX5 18 "GainTrees$Rules" "bound" "[I", Cond.methodLink RX5 131 yX8_cell, Cond.instanceMethod yX8_cell, Cond.selects RX8 yX8_cell yX8_cell, Cond.initialized RX8, Cond.code yX8_cell cX8_cell 3 (some .int), Cond.fieldLink RX8 15 "GainTrees$Table" "most" "I", Cond.fieldLink RX8 21 "GainTrees$Table" "cells" "[I"]
def wsX5_countMisses_r2 : List Cond := [Cond.methodLink RX8 25 yX8_isColumn, Cond.static yX8_isColumn, Cond.code yX8_isColumn cX8_isColumn 1 (some .boolean), Cond.methodLink RX5 156 yX8_classOf, Cond.instanceMethod yX8_classOf, Cond.selects RX8 yX8_classOf yX8_classOf, Cond.code yX8_classOf cX8_classOf 2 (some .int), Cond.methodLink RX8 29 yX8_cell]
def wsX5_countMisses : List Cond := .code yX5_countMisses cX5_countMisses 5 none :: ((wsX5_countMisses_r1 ++ wsX5_countMisses_r2) ++ wsX50 ++ wsX80)
def wsX5_countWithout : List Cond := .code yX5_countWithout cX5_countWithout 5 none :: ([.fieldLink RX5 24 "GainTrees$Rules" "size" "[I", .fieldLink RX5 45 "GainTrees$Rules" "coveredWithout" "[I", .fieldLink RX5 33 "GainTrees$Rules" "covered" "[I", .fieldLink RX5 48 "GainTrees$Rules" "rightWithout" "[I", .fieldLink RX5 36 "GainTrees$Rules" "right" "[I", .fieldLink RX5 77 "GainTrees$Table" "size" "I", .fieldLink RX5 42 "GainTrees$Rules" "missed" "[I", .fieldLink RX5 39 "GainTrees$Rules" "misses" "[I", .fieldLink RX5 30 "GainTrees$Rules" "result" "[I", .methodLink RX5 156 yX8_classOf, .instanceMethod yX8_classOf, .selects RX8 yX8_classOf yX8_classOf, .initialized RX8, .code yX8_classOf cX8_classOf 2 (some .int), .methodLink RX8 29 yX8_cell, .instanceMethod yX8_cell, .selects RX8 yX8_cell yX8_cell, .code yX8_cell cX8_cell 3 (some .int), .fieldLink RX8 15 "GainTrees$Table" "most" "I", .fieldLink RX8 21 "GainTrees$Table" "cells" "[I", .methodLink RX8 25 yX8_isColumn, .static yX8_isColumn, .code yX8_isColumn cX8_isColumn 1 (some .boolean)] ++ wsX50 ++ wsX80)
def wsJ6_compare_7cf53 : List Cond := .code yJ6_compare_7cf53 cJ6_compare_7cf53 2 (some .int) :: ([])
def wsX5_orderOfWorths : List Cond := .code yX5_orderOfWorths cX5_orderOfWorths 4 (some .int) :: ([.methodLink RX5 163 yJ6_compare_7cf53, .static yJ6_compare_7cf53, .initialized RJ6, .code yJ6_compare_7cf53 cJ6_compare_7cf53 2 (some .int)])
def wsX5_needless : List Cond := .code yX5_needless cX5_needless 7 (some .int) :: ([.fieldLink RX5 33 "GainTrees$Rules" "covered" "[I", .fieldLink RX5 36 "GainTrees$Rules" "right" "[I", .fieldLink RX5 24 "GainTrees$Rules" "size" "[I", .fieldLink RX5 51 "GainTrees$Rules" "gone" "[Z", .fieldLink RX5 48 "GainTrees$Rules" "rightWithout" "[I", .fieldLink RX5 45 "GainTrees$Rules" "coveredWithout" "[I", .methodLink RX5 159 yX5_orderOfWorths, .static yX5_orderOfWorths, .initialized RX5, .code yX5_orderOfWorths cX5_orderOfWorths 4 (some .int), .methodLink RX5 163 yJ6_compare_7cf53, .static yJ6_compare_7cf53, .initialized RJ6, .code yJ6_compare_7cf53 cJ6_compare_7cf53 2 (some .int)] ++ wsX50)
def wsX5_release_r1 : List Cond := [Cond.fieldLink RX5 51 "GainTrees$Rules" "gone" "[Z", Cond.fieldLink RX5 33 "GainTrees$Rules" "covered" "[I", Cond.fieldLink RX5 45 "GainTrees$Rules" "coveredWithout" "[I", Cond.fieldLink RX5 36 "GainTrees$Rules" "right" "[I", Cond.fieldLink RX5 48 "GainTrees$Rules" "rightWithout" "[I", Cond.fieldLink RX5 77 "GainTrees$Table" "size" "I", Cond.fieldLink RX5 21 "GainTrees$Rules" "start" "[I", Cond.fieldLink RX5 39 "GainTrees$Rules" "misses" "[I", Cond.fieldLink RX5 42 "GainTrees$Rules" "missed" "[I", Cond.methodLink RX5 134 yX5_holds, Cond.instanceMethod yX5_holds, Cond.selects RX5 yX5_holds yX5_holds, Cond.initialized RX5, Cond.code yX5_holds cX5_holds 5 (some .boolean), Cond.fieldLink RX5 11 "GainTrees$Rules" "attribute" "[I", Cond.fieldLink RX5 15 "GainTrees$Rules" "sort" "[I", Cond.fieldLink RX5 18 "GainTrees$Rules" "bound" "[I", Cond.methodLink RX5 131 yX8_cell, Cond.instanceMethod yX8_cell, Cond.selects RX8 yX8_cell yX8_cell, Cond.initialized RX8, Cond.code yX8_cell cX8_cell 3 (some .int), Cond.fieldLink RX8 15 "GainTrees$Table" "most" "I", Cond.fieldLink RX8 21 "GainTrees$Table" "cells" "[I"]
def wsX5_release_r2 : List Cond := [Cond.methodLink RX8 25 yX8_isColumn, Cond.static yX8_isColumn, Cond.code yX8_isColumn cX8_isColumn 1 (some .boolean)]
def wsX5_release : List Cond := .code yX5_release cX5_release 5 none :: ((wsX5_release_r1 ++ wsX5_release_r2) ++ wsX50 ++ wsX80)
def wsX5_closeUp : List Cond := .code yX5_closeUp cX5_closeUp 4 none :: ([.fieldLink RX5 21 "GainTrees$Rules" "start" "[I", .fieldLink RX5 24 "GainTrees$Rules" "size" "[I", .fieldLink RX5 51 "GainTrees$Rules" "gone" "[Z", .fieldLink RX5 11 "GainTrees$Rules" "attribute" "[I", .fieldLink RX5 15 "GainTrees$Rules" "sort" "[I", .fieldLink RX5 18 "GainTrees$Rules" "bound" "[I"] ++ wsX50)
def wsX5_simplify_r1 : List Cond := [Cond.methodLink RX5 138 yX5_countMisses, Cond.instanceMethod yX5_countMisses, Cond.selects RX5 yX5_countMisses yX5_countMisses, Cond.initialized RX5, Cond.code yX5_countMisses cX5_countMisses 5 none, Cond.fieldLink RX5 33 "GainTrees$Rules" "covered" "[I", Cond.fieldLink RX5 36 "GainTrees$Rules" "right" "[I", Cond.fieldLink RX5 24 "GainTrees$Rules" "size" "[I", Cond.fieldLink RX5 51 "GainTrees$Rules" "gone" "[Z", Cond.fieldLink RX5 77 "GainTrees$Table" "size" "I", Cond.fieldLink RX5 39 "GainTrees$Rules" "misses" "[I", Cond.fieldLink RX5 42 "GainTrees$Rules" "missed" "[I", Cond.fieldLink RX5 21 "GainTrees$Rules" "start" "[I", Cond.fieldLink RX5 30 "GainTrees$Rules" "result" "[I", Cond.methodLink RX5 134 yX5_holds, Cond.instanceMethod yX5_holds, Cond.selects RX5 yX5_holds yX5_holds, Cond.code yX5_holds cX5_holds 5 (some .boolean), Cond.fieldLink RX5 11 "GainTrees$Rules" "attribute" "[I", Cond.fieldLink RX5 15 "GainTrees$Rules" "sort" "[I", Cond.fieldLink RX5 18 "GainTrees$Rules" "bound" "[I", Cond.methodLink RX5 131 yX8_cell, Cond.instanceMethod yX8_cell, Cond.selects RX8 yX8_cell yX8_cell]
def wsX5_simplify_r2 : List Cond := [Cond.initialized RX8, Cond.code yX8_cell cX8_cell 3 (some .int), Cond.fieldLink RX8 15 "GainTrees$Table" "most" "I", Cond.fieldLink RX8 21 "GainTrees$Table" "cells" "[I", Cond.methodLink RX8 25 yX8_isColumn, Cond.static yX8_isColumn, Cond.code yX8_isColumn cX8_isColumn 1 (some .boolean), Cond.methodLink RX5 156 yX8_classOf, Cond.instanceMethod yX8_classOf, Cond.selects RX8 yX8_classOf yX8_classOf, Cond.code yX8_classOf cX8_classOf 2 (some .int), Cond.methodLink RX8 29 yX8_cell, Cond.methodLink RX5 141 yX5_countWithout, Cond.instanceMethod yX5_countWithout, Cond.selects RX5 yX5_countWithout yX5_countWithout, Cond.code yX5_countWithout cX5_countWithout 5 none, Cond.fieldLink RX5 45 "GainTrees$Rules" "coveredWithout" "[I", Cond.fieldLink RX5 48 "GainTrees$Rules" "rightWithout" "[I", Cond.methodLink RX5 144 yX5_needless, Cond.instanceMethod yX5_needless, Cond.selects RX5 yX5_needless yX5_needless, Cond.code yX5_needless cX5_needless 7 (some .int), Cond.methodLink RX5 159 yX5_orderOfWorths, Cond.static yX5_orderOfWorths]
def wsX5_simplify_r3 : List Cond := [Cond.code yX5_orderOfWorths cX5_orderOfWorths 4 (some .int), Cond.methodLink RX5 163 yJ6_compare_7cf53, Cond.static yJ6_compare_7cf53, Cond.initialized RJ6, Cond.code yJ6_compare_7cf53 cJ6_compare_7cf53 2 (some .int), Cond.methodLink RX5 148 yX5_release, Cond.instanceMethod yX5_release, Cond.selects RX5 yX5_release yX5_release, Cond.code yX5_release cX5_release 5 none, Cond.methodLink RX5 152 yX5_closeUp, Cond.instanceMethod yX5_closeUp, Cond.selects RX5 yX5_closeUp yX5_closeUp, Cond.code yX5_closeUp cX5_closeUp 4 none]
def wsX5_simplify : List Cond := .code yX5_simplify cX5_simplify 5 none :: ((wsX5_simplify_r1 ++ (wsX5_simplify_r2 ++ wsX5_simplify_r3)) ++ wsX50 ++ wsX80)
def wsX5_hasSame : List Cond := .code yX5_hasSame cX5_hasSame 6 (some .boolean) :: ([.fieldLink RX5 24 "GainTrees$Rules" "size" "[I", .fieldLink RX5 21 "GainTrees$Rules" "start" "[I", .fieldLink RX5 11 "GainTrees$Rules" "attribute" "[I", .fieldLink RX5 15 "GainTrees$Rules" "sort" "[I", .fieldLink RX5 18 "GainTrees$Rules" "bound" "[I"] ++ wsX50)
def wsX5_isTold : List Cond := .code yX5_isTold cX5_isTold 3 (some .boolean) :: ([.fieldLink RX5 30 "GainTrees$Rules" "result" "[I", .fieldLink RX5 24 "GainTrees$Rules" "size" "[I", .methodLink RX5 168 yX5_hasSame, .instanceMethod yX5_hasSame, .selects RX5 yX5_hasSame yX5_hasSame, .initialized RX5, .code yX5_hasSame cX5_hasSame 6 (some .boolean), .fieldLink RX5 21 "GainTrees$Rules" "start" "[I", .fieldLink RX5 11 "GainTrees$Rules" "attribute" "[I", .fieldLink RX5 15 "GainTrees$Rules" "sort" "[I", .fieldLink RX5 18 "GainTrees$Rules" "bound" "[I"] ++ wsX50)
def wsX5_addRule_r1 : List Cond := [Cond.fieldLink RX5 58 "GainTrees$Rules" "many" "I", Cond.fieldLink RX5 21 "GainTrees$Rules" "start" "[I", Cond.fieldLink RX5 24 "GainTrees$Rules" "size" "[I", Cond.fieldLink RX5 96 "GainTrees$Tree" "depth" "[I", Cond.methodLink RX5 99 Lib.Math.min.name, Cond.static Lib.Math.min.name, Cond.initialized "java/lang/Math", Cond.code Lib.Math.min.name Lib.Math.min.code 2 (some .int), Cond.fieldLink RX5 30 "GainTrees$Rules" "result" "[I", Cond.fieldLink RX5 105 "GainTrees$Tree" "result" "[I", Cond.fieldLink RX5 106 "GainTrees$Tree" "parent" "[I", Cond.fieldLink RX5 109 "GainTrees$Tree" "place" "[I", Cond.methodLink RX5 112 yX5_setCondition, Cond.instanceMethod yX5_setCondition, Cond.selects RX5 yX5_setCondition yX5_setCondition, Cond.initialized RX5, Cond.code yX5_setCondition cX5_setCondition 5 none, Cond.fieldLink RX5 11 "GainTrees$Rules" "attribute" "[I", Cond.fieldLink RX5 124 "GainTrees$Tree" "attribute" "[I", Cond.fieldLink RX5 125 "GainTrees$Tree" "byCut" "[Z", Cond.fieldLink RX5 15 "GainTrees$Rules" "sort" "[I", Cond.fieldLink RX5 18 "GainTrees$Rules" "bound" "[I", Cond.fieldLink RX5 128 "GainTrees$Tree" "cut" "[I", Cond.methodLink RX5 116 yX5_simplify]
def wsX5_addRule_r2 : List Cond := [Cond.instanceMethod yX5_simplify, Cond.selects RX5 yX5_simplify yX5_simplify, Cond.code yX5_simplify cX5_simplify 5 none, Cond.methodLink RX5 138 yX5_countMisses, Cond.instanceMethod yX5_countMisses, Cond.selects RX5 yX5_countMisses yX5_countMisses, Cond.code yX5_countMisses cX5_countMisses 5 none, Cond.fieldLink RX5 33 "GainTrees$Rules" "covered" "[I", Cond.fieldLink RX5 36 "GainTrees$Rules" "right" "[I", Cond.fieldLink RX5 51 "GainTrees$Rules" "gone" "[Z", Cond.fieldLink RX5 77 "GainTrees$Table" "size" "I", Cond.fieldLink RX5 39 "GainTrees$Rules" "misses" "[I", Cond.fieldLink RX5 42 "GainTrees$Rules" "missed" "[I", Cond.methodLink RX5 134 yX5_holds, Cond.instanceMethod yX5_holds, Cond.selects RX5 yX5_holds yX5_holds, Cond.code yX5_holds cX5_holds 5 (some .boolean), Cond.methodLink RX5 131 yX8_cell, Cond.instanceMethod yX8_cell, Cond.selects RX8 yX8_cell yX8_cell, Cond.initialized RX8, Cond.code yX8_cell cX8_cell 3 (some .int), Cond.fieldLink RX8 15 "GainTrees$Table" "most" "I", Cond.fieldLink RX8 21 "GainTrees$Table" "cells" "[I"]
def wsX5_addRule_r3 : List Cond := [Cond.methodLink RX8 25 yX8_isColumn, Cond.static yX8_isColumn, Cond.code yX8_isColumn cX8_isColumn 1 (some .boolean), Cond.methodLink RX5 156 yX8_classOf, Cond.instanceMethod yX8_classOf, Cond.selects RX8 yX8_classOf yX8_classOf, Cond.code yX8_classOf cX8_classOf 2 (some .int), Cond.methodLink RX8 29 yX8_cell, Cond.methodLink RX5 141 yX5_countWithout, Cond.instanceMethod yX5_countWithout, Cond.selects RX5 yX5_countWithout yX5_countWithout, Cond.code yX5_countWithout cX5_countWithout 5 none, Cond.fieldLink RX5 45 "GainTrees$Rules" "coveredWithout" "[I", Cond.fieldLink RX5 48 "GainTrees$Rules" "rightWithout" "[I", Cond.methodLink RX5 144 yX5_needless, Cond.instanceMethod yX5_needless, Cond.selects RX5 yX5_needless yX5_needless, Cond.code yX5_needless cX5_needless 7 (some .int), Cond.methodLink RX5 159 yX5_orderOfWorths, Cond.static yX5_orderOfWorths, Cond.code yX5_orderOfWorths cX5_orderOfWorths 4 (some .int), Cond.methodLink RX5 163 yJ6_compare_7cf53, Cond.static yJ6_compare_7cf53, Cond.initialized RJ6]
def wsX5_addRule_r4 : List Cond := [Cond.code yJ6_compare_7cf53 cJ6_compare_7cf53 2 (some .int), Cond.methodLink RX5 148 yX5_release, Cond.instanceMethod yX5_release, Cond.selects RX5 yX5_release yX5_release, Cond.code yX5_release cX5_release 5 none, Cond.methodLink RX5 152 yX5_closeUp, Cond.instanceMethod yX5_closeUp, Cond.selects RX5 yX5_closeUp yX5_closeUp, Cond.code yX5_closeUp cX5_closeUp 4 none, Cond.methodLink RX5 120 yX5_isTold, Cond.instanceMethod yX5_isTold, Cond.selects RX5 yX5_isTold yX5_isTold, Cond.code yX5_isTold cX5_isTold 3 (some .boolean), Cond.methodLink RX5 168 yX5_hasSame, Cond.instanceMethod yX5_hasSame, Cond.selects RX5 yX5_hasSame yX5_hasSame, Cond.code yX5_hasSame cX5_hasSame 6 (some .boolean)]
def wsX5_addRule : List Cond := .code yX5_addRule cX5_addRule 8 none :: ((wsX5_addRule_r1 ++ (wsX5_addRule_r2 ++ (wsX5_addRule_r3 ++ wsX5_addRule_r4))) ++ wsX50 ++ wsX90 ++ wsX80)
def wsX5_isAhead : List Cond := .code yX5_isAhead cX5_isAhead 4 (some .boolean) :: ([.fieldLink RX5 36 "GainTrees$Rules" "right" "[I", .fieldLink RX5 33 "GainTrees$Rules" "covered" "[I", .methodLink RX5 159 yX5_orderOfWorths, .static yX5_orderOfWorths, .initialized RX5, .code yX5_orderOfWorths cX5_orderOfWorths 4 (some .int), .methodLink RX5 163 yJ6_compare_7cf53, .static yJ6_compare_7cf53, .initialized RJ6, .code yJ6_compare_7cf53 cJ6_compare_7cf53 2 (some .int)] ++ wsX50)
def wsX5_rank : List Cond := .code yX5_rank cX5_rank 3 none :: ([.fieldLink RX5 58 "GainTrees$Rules" "many" "I", .fieldLink RX5 27 "GainTrees$Rules" "ranked" "[I", .methodLink RX5 172 yX5_isAhead, .instanceMethod yX5_isAhead, .selects RX5 yX5_isAhead yX5_isAhead, .initialized RX5, .code yX5_isAhead cX5_isAhead 4 (some .boolean), .fieldLink RX5 36 "GainTrees$Rules" "right" "[I", .fieldLink RX5 33 "GainTrees$Rules" "covered" "[I", .methodLink RX5 159 yX5_orderOfWorths, .static yX5_orderOfWorths, .code yX5_orderOfWorths cX5_orderOfWorths 4 (some .int), .methodLink RX5 163 yJ6_compare_7cf53, .static yJ6_compare_7cf53, .initialized RJ6, .code yJ6_compare_7cf53 cJ6_compare_7cf53 2 (some .int)] ++ wsX50)
def wsX5_covers : List Cond := .code yX5_covers cX5_covers 5 (some .boolean) :: ([.fieldLink RX5 24 "GainTrees$Rules" "size" "[I", .fieldLink RX5 21 "GainTrees$Rules" "start" "[I", .methodLink RX5 134 yX5_holds, .instanceMethod yX5_holds, .selects RX5 yX5_holds yX5_holds, .initialized RX5, .code yX5_holds cX5_holds 5 (some .boolean), .fieldLink RX5 11 "GainTrees$Rules" "attribute" "[I", .fieldLink RX5 15 "GainTrees$Rules" "sort" "[I", .fieldLink RX5 18 "GainTrees$Rules" "bound" "[I", .methodLink RX5 131 yX8_cell, .instanceMethod yX8_cell, .selects RX8 yX8_cell yX8_cell, .initialized RX8, .code yX8_cell cX8_cell 3 (some .int), .fieldLink RX8 15 "GainTrees$Table" "most" "I", .fieldLink RX8 21 "GainTrees$Table" "cells" "[I", .methodLink RX8 25 yX8_isColumn, .static yX8_isColumn, .code yX8_isColumn cX8_isColumn 1 (some .boolean)] ++ wsX50 ++ wsX80)
def wsX5_firstFor_r1 : List Cond := [Cond.fieldLink RX5 58 "GainTrees$Rules" "many" "I", Cond.fieldLink RX5 27 "GainTrees$Rules" "ranked" "[I", Cond.methodLink RX5 175 yX5_covers, Cond.instanceMethod yX5_covers, Cond.selects RX5 yX5_covers yX5_covers, Cond.initialized RX5, Cond.code yX5_covers cX5_covers 5 (some .boolean), Cond.fieldLink RX5 24 "GainTrees$Rules" "size" "[I", Cond.fieldLink RX5 21 "GainTrees$Rules" "start" "[I", Cond.methodLink RX5 134 yX5_holds, Cond.instanceMethod yX5_holds, Cond.selects RX5 yX5_holds yX5_holds, Cond.code yX5_holds cX5_holds 5 (some .boolean), Cond.fieldLink RX5 11 "GainTrees$Rules" "attribute" "[I", Cond.fieldLink RX5 15 "GainTrees$Rules" "sort" "[I", Cond.fieldLink RX5 18 "GainTrees$Rules" "bound" "[I", Cond.methodLink RX5 131 yX8_cell, Cond.instanceMethod yX8_cell, Cond.selects RX8 yX8_cell yX8_cell, Cond.initialized RX8, Cond.code yX8_cell cX8_cell 3 (some .int), Cond.fieldLink RX8 15 "GainTrees$Table" "most" "I", Cond.fieldLink RX8 21 "GainTrees$Table" "cells" "[I", Cond.methodLink RX8 25 yX8_isColumn]
def wsX5_firstFor_r2 : List Cond := [Cond.static yX8_isColumn, Cond.code yX8_isColumn cX8_isColumn 1 (some .boolean)]
def wsX5_firstFor : List Cond := .code yX5_firstFor cX5_firstFor 4 (some .int) :: ((wsX5_firstFor_r1 ++ wsX5_firstFor_r2) ++ wsX50 ++ wsX80)
def wsX5_commonestLeft_r1 : List Cond := [Cond.arrayClass .int, Cond.fieldLink RX5 77 "GainTrees$Table" "size" "I", Cond.methodLink RX5 156 yX8_classOf, Cond.instanceMethod yX8_classOf, Cond.selects RX8 yX8_classOf yX8_classOf, Cond.initialized RX8, Cond.code yX8_classOf cX8_classOf 2 (some .int), Cond.methodLink RX8 29 yX8_cell, Cond.instanceMethod yX8_cell, Cond.selects RX8 yX8_cell yX8_cell, Cond.code yX8_cell cX8_cell 3 (some .int), Cond.fieldLink RX8 15 "GainTrees$Table" "most" "I", Cond.fieldLink RX8 21 "GainTrees$Table" "cells" "[I", Cond.methodLink RX8 25 yX8_isColumn, Cond.static yX8_isColumn, Cond.code yX8_isColumn cX8_isColumn 1 (some .boolean), Cond.methodLink RX5 178 yX5_firstFor, Cond.instanceMethod yX5_firstFor, Cond.selects RX5 yX5_firstFor yX5_firstFor, Cond.initialized RX5, Cond.code yX5_firstFor cX5_firstFor 4 (some .int), Cond.fieldLink RX5 58 "GainTrees$Rules" "many" "I", Cond.fieldLink RX5 27 "GainTrees$Rules" "ranked" "[I", Cond.methodLink RX5 175 yX5_covers]
def wsX5_commonestLeft_r2 : List Cond := [Cond.instanceMethod yX5_covers, Cond.selects RX5 yX5_covers yX5_covers, Cond.code yX5_covers cX5_covers 5 (some .boolean), Cond.fieldLink RX5 24 "GainTrees$Rules" "size" "[I", Cond.fieldLink RX5 21 "GainTrees$Rules" "start" "[I", Cond.methodLink RX5 134 yX5_holds, Cond.instanceMethod yX5_holds, Cond.selects RX5 yX5_holds yX5_holds, Cond.code yX5_holds cX5_holds 5 (some .boolean), Cond.fieldLink RX5 11 "GainTrees$Rules" "attribute" "[I", Cond.fieldLink RX5 15 "GainTrees$Rules" "sort" "[I", Cond.fieldLink RX5 18 "GainTrees$Rules" "bound" "[I", Cond.methodLink RX5 131 yX8_cell]
def wsX5_commonestLeft : List Cond := .code yX5_commonestLeft cX5_commonestLeft 8 (some .int) :: ((wsX5_commonestLeft_r1 ++ wsX5_commonestLeft_r2) ++ wsX80 ++ wsX50)
def wsX5_make_r1 : List Cond := [Cond.fieldLink RX5 72 "GainTrees$Tree" "nodes" "I", Cond.fieldLink RX5 55 "GainTrees$Rules" "arrived" "[I", Cond.fieldLink RX5 77 "GainTrees$Table" "size" "I", Cond.fieldLink RX5 58 "GainTrees$Rules" "many" "I", Cond.fieldLink RX5 66 "GainTrees$Rules" "otherwise" "I", Cond.fieldLink RX5 62 "GainTrees$Rules" "stand" "Z", Cond.methodLink RX5 69 yX5_drop, Cond.instanceMethod yX5_drop, Cond.selects RX5 yX5_drop yX5_drop, Cond.initialized RX5, Cond.code yX5_drop cX5_drop 1 none, Cond.methodLink RX5 81 yX9_leafOf, Cond.instanceMethod yX9_leafOf, Cond.selects RX9 yX9_leafOf yX9_leafOf, Cond.initialized RX9, Cond.code yX9_leafOf cX9_leafOf 5 (some .int), Cond.fieldLink RX9 28 "GainTrees$Tree" "kids" "[I", Cond.methodLink RX9 73 yX9_childFor, Cond.instanceMethod yX9_childFor, Cond.selects RX9 yX9_childFor yX9_childFor, Cond.code yX9_childFor cX9_childFor 5 (some .int), Cond.fieldLink RX9 9 "GainTrees$Tree" "attribute" "[I", Cond.fieldLink RX9 18 "GainTrees$Tree" "byCut" "[Z", Cond.fieldLink RX9 15 "GainTrees$Tree" "cut" "[I"]
def wsX5_make_r2 : List Cond := [Cond.methodLink RX9 64 yX8_cell, Cond.instanceMethod yX8_cell, Cond.selects RX8 yX8_cell yX8_cell, Cond.initialized RX8, Cond.code yX8_cell cX8_cell 3 (some .int), Cond.fieldLink RX8 15 "GainTrees$Table" "most" "I", Cond.fieldLink RX8 21 "GainTrees$Table" "cells" "[I", Cond.methodLink RX8 25 yX8_isColumn, Cond.static yX8_isColumn, Cond.code yX8_isColumn cX8_isColumn 1 (some .boolean), Cond.methodLink RX9 70 yX9_childOf, Cond.instanceMethod yX9_childOf, Cond.selects RX9 yX9_childOf yX9_childOf, Cond.code yX9_childOf cX9_childOf 5 (some .int), Cond.fieldLink RX9 52 "GainTrees$Tree" "nodes" "I", Cond.fieldLink RX9 43 "GainTrees$Tree" "after" "[I", Cond.methodLink RX5 85 yX5_addRule, Cond.instanceMethod yX5_addRule, Cond.selects RX5 yX5_addRule yX5_addRule, Cond.code yX5_addRule cX5_addRule 8 none, Cond.fieldLink RX5 21 "GainTrees$Rules" "start" "[I", Cond.fieldLink RX5 24 "GainTrees$Rules" "size" "[I", Cond.fieldLink RX5 96 "GainTrees$Tree" "depth" "[I", Cond.methodLink RX5 99 Lib.Math.min.name]
def wsX5_make_r3 : List Cond := [Cond.static Lib.Math.min.name, Cond.initialized "java/lang/Math", Cond.code Lib.Math.min.name Lib.Math.min.code 2 (some .int), Cond.fieldLink RX5 30 "GainTrees$Rules" "result" "[I", Cond.fieldLink RX5 105 "GainTrees$Tree" "result" "[I", Cond.fieldLink RX5 106 "GainTrees$Tree" "parent" "[I", Cond.fieldLink RX5 109 "GainTrees$Tree" "place" "[I", Cond.methodLink RX5 112 yX5_setCondition, Cond.instanceMethod yX5_setCondition, Cond.selects RX5 yX5_setCondition yX5_setCondition, Cond.code yX5_setCondition cX5_setCondition 5 none, Cond.fieldLink RX5 11 "GainTrees$Rules" "attribute" "[I", Cond.fieldLink RX5 124 "GainTrees$Tree" "attribute" "[I", Cond.fieldLink RX5 125 "GainTrees$Tree" "byCut" "[Z", Cond.fieldLink RX5 15 "GainTrees$Rules" "sort" "[I", Cond.fieldLink RX5 18 "GainTrees$Rules" "bound" "[I", Cond.fieldLink RX5 128 "GainTrees$Tree" "cut" "[I", Cond.methodLink RX5 116 yX5_simplify, Cond.instanceMethod yX5_simplify, Cond.selects RX5 yX5_simplify yX5_simplify, Cond.code yX5_simplify cX5_simplify 5 none, Cond.methodLink RX5 138 yX5_countMisses, Cond.instanceMethod yX5_countMisses, Cond.selects RX5 yX5_countMisses yX5_countMisses]
def wsX5_make_r4 : List Cond := [Cond.code yX5_countMisses cX5_countMisses 5 none, Cond.fieldLink RX5 33 "GainTrees$Rules" "covered" "[I", Cond.fieldLink RX5 36 "GainTrees$Rules" "right" "[I", Cond.fieldLink RX5 51 "GainTrees$Rules" "gone" "[Z", Cond.fieldLink RX5 39 "GainTrees$Rules" "misses" "[I", Cond.fieldLink RX5 42 "GainTrees$Rules" "missed" "[I", Cond.methodLink RX5 134 yX5_holds, Cond.instanceMethod yX5_holds, Cond.selects RX5 yX5_holds yX5_holds, Cond.code yX5_holds cX5_holds 5 (some .boolean), Cond.methodLink RX5 131 yX8_cell, Cond.methodLink RX5 156 yX8_classOf, Cond.instanceMethod yX8_classOf, Cond.selects RX8 yX8_classOf yX8_classOf, Cond.code yX8_classOf cX8_classOf 2 (some .int), Cond.methodLink RX8 29 yX8_cell, Cond.methodLink RX5 141 yX5_countWithout, Cond.instanceMethod yX5_countWithout, Cond.selects RX5 yX5_countWithout yX5_countWithout, Cond.code yX5_countWithout cX5_countWithout 5 none, Cond.fieldLink RX5 45 "GainTrees$Rules" "coveredWithout" "[I", Cond.fieldLink RX5 48 "GainTrees$Rules" "rightWithout" "[I", Cond.methodLink RX5 144 yX5_needless, Cond.instanceMethod yX5_needless]
def wsX5_make_r5 : List Cond := [Cond.selects RX5 yX5_needless yX5_needless, Cond.code yX5_needless cX5_needless 7 (some .int), Cond.methodLink RX5 159 yX5_orderOfWorths, Cond.static yX5_orderOfWorths, Cond.code yX5_orderOfWorths cX5_orderOfWorths 4 (some .int), Cond.methodLink RX5 163 yJ6_compare_7cf53, Cond.static yJ6_compare_7cf53, Cond.initialized RJ6, Cond.code yJ6_compare_7cf53 cJ6_compare_7cf53 2 (some .int), Cond.methodLink RX5 148 yX5_release, Cond.instanceMethod yX5_release, Cond.selects RX5 yX5_release yX5_release, Cond.code yX5_release cX5_release 5 none, Cond.methodLink RX5 152 yX5_closeUp, Cond.instanceMethod yX5_closeUp, Cond.selects RX5 yX5_closeUp yX5_closeUp, Cond.code yX5_closeUp cX5_closeUp 4 none, Cond.methodLink RX5 120 yX5_isTold, Cond.instanceMethod yX5_isTold, Cond.selects RX5 yX5_isTold yX5_isTold, Cond.code yX5_isTold cX5_isTold 3 (some .boolean), Cond.methodLink RX5 168 yX5_hasSame, Cond.instanceMethod yX5_hasSame, Cond.selects RX5 yX5_hasSame yX5_hasSame]
def wsX5_make_r6 : List Cond := [Cond.code yX5_hasSame cX5_hasSame 6 (some .boolean), Cond.methodLink RX5 89 yX5_rank, Cond.instanceMethod yX5_rank, Cond.selects RX5 yX5_rank yX5_rank, Cond.code yX5_rank cX5_rank 3 none, Cond.fieldLink RX5 27 "GainTrees$Rules" "ranked" "[I", Cond.methodLink RX5 172 yX5_isAhead, Cond.instanceMethod yX5_isAhead, Cond.selects RX5 yX5_isAhead yX5_isAhead, Cond.code yX5_isAhead cX5_isAhead 4 (some .boolean), Cond.methodLink RX5 92 yX5_commonestLeft, Cond.instanceMethod yX5_commonestLeft, Cond.selects RX5 yX5_commonestLeft yX5_commonestLeft, Cond.code yX5_commonestLeft cX5_commonestLeft 8 (some .int), Cond.arrayClass .int, Cond.methodLink RX5 178 yX5_firstFor, Cond.instanceMethod yX5_firstFor, Cond.selects RX5 yX5_firstFor yX5_firstFor, Cond.code yX5_firstFor cX5_firstFor 4 (some .int), Cond.methodLink RX5 175 yX5_covers, Cond.instanceMethod yX5_covers, Cond.selects RX5 yX5_covers yX5_covers, Cond.code yX5_covers cX5_covers 5 (some .boolean)]
def wsX5_make : List Cond := .code yX5_make cX5_make 4 none :: ((wsX5_make_r1 ++ (wsX5_make_r2 ++ (wsX5_make_r3 ++ (wsX5_make_r4 ++ (wsX5_make_r5 ++ wsX5_make_r6))))) ++ wsX90 ++ wsX50 ++ wsX80)
def wsX5_decisionOn_r1 : List Cond := [Cond.fieldLink RX5 66 "GainTrees$Rules" "otherwise" "I", Cond.fieldLink RX5 30 "GainTrees$Rules" "result" "[I", Cond.methodLink RX5 178 yX5_firstFor, Cond.instanceMethod yX5_firstFor, Cond.selects RX5 yX5_firstFor yX5_firstFor, Cond.initialized RX5, Cond.code yX5_firstFor cX5_firstFor 4 (some .int), Cond.fieldLink RX5 58 "GainTrees$Rules" "many" "I", Cond.fieldLink RX5 27 "GainTrees$Rules" "ranked" "[I", Cond.methodLink RX5 175 yX5_covers, Cond.instanceMethod yX5_covers, Cond.selects RX5 yX5_covers yX5_covers, Cond.code yX5_covers cX5_covers 5 (some .boolean), Cond.fieldLink RX5 24 "GainTrees$Rules" "size" "[I", Cond.fieldLink RX5 21 "GainTrees$Rules" "start" "[I", Cond.methodLink RX5 134 yX5_holds, Cond.instanceMethod yX5_holds, Cond.selects RX5 yX5_holds yX5_holds, Cond.code yX5_holds cX5_holds 5 (some .boolean), Cond.fieldLink RX5 11 "GainTrees$Rules" "attribute" "[I", Cond.fieldLink RX5 15 "GainTrees$Rules" "sort" "[I", Cond.fieldLink RX5 18 "GainTrees$Rules" "bound" "[I", Cond.methodLink RX5 131 yX8_cell, Cond.instanceMethod yX8_cell]
def wsX5_decisionOn_r2 : List Cond := [Cond.selects RX8 yX8_cell yX8_cell, Cond.initialized RX8, Cond.code yX8_cell cX8_cell 3 (some .int), Cond.fieldLink RX8 15 "GainTrees$Table" "most" "I", Cond.fieldLink RX8 21 "GainTrees$Table" "cells" "[I", Cond.methodLink RX8 25 yX8_isColumn, Cond.static yX8_isColumn, Cond.code yX8_isColumn cX8_isColumn 1 (some .boolean)]
def wsX5_decisionOn : List Cond := .code yX5_decisionOn cX5_decisionOn 4 (some .int) :: ((wsX5_decisionOn_r1 ++ wsX5_decisionOn_r2) ++ wsX50 ++ wsX80)
def wsX5_plain : List Cond := .code yX5_plain cX5_plain 3 (some .int) :: ([.fieldLink RX5 30 "GainTrees$Rules" "result" "[I", .fieldLink RX5 24 "GainTrees$Rules" "size" "[I", .fieldLink RX5 33 "GainTrees$Rules" "covered" "[I", .fieldLink RX5 36 "GainTrees$Rules" "right" "[I"] ++ wsX50)
def wsX6_logOf : List Cond := .code yX6_logOf cX6_logOf 6 (some .int) :: ([.constantLong RX6 38 (2147483648)])
def wsX6_factorOf : List Cond := .code yX6_factorOf cX6_factorOf 2 (some .int) :: ([])
def wsX6_init : List Cond := .code yX6_init cX6_init 2 none :: ([.methodLink RX6 3 objectInit, .instanceMethod objectInit, .code objectInit ⟨#[0xb1]⟩ 1 none, .arrayClass .int, .fieldLink RX6 9 "GainTrees$Scale" "logs" "[I", .fieldLink RX6 15 "GainTrees$Scale" "factor" "[I", .fieldLink RX6 18 "GainTrees$Scale" "power" "[I", .classLink RX6 21 RX3, .instantiable RX3 2, .initialized RX3, .fieldLink RX6 24 "GainTrees$Scale" "above" "LGainTrees$Product;", .fieldLink RX6 28 "GainTrees$Scale" "below" "LGainTrees$Product;", .instanceMethod yX3_init, .code yX3_init cX3_init 1 none, .methodLink RX3 3 objectInit, .fieldLink RX3 9 "GainTrees$Product" "limbs" "[I", .methodLink RX6 31 yX6_logOf, .static yX6_logOf, .initialized RX6, .code yX6_logOf cX6_logOf 6 (some .int), .constantLong RX6 38 (2147483648), .methodLink RX6 35 yX6_factorOf, .static yX6_factorOf, .code yX6_factorOf cX6_factorOf 2 (some .int)] ++ wsX60 ++ wsX30)
def wsX8_init : List Cond := .code yX8_init cX8_init 2 none :: ([.methodLink RX8 3 objectInit, .instanceMethod objectInit, .code objectInit ⟨#[0xb1]⟩ 1 none, .methodLink RX8 9 Lib.Math.max.name, .static Lib.Math.max.name, .initialized "java/lang/Math", .code Lib.Math.max.name Lib.Math.max.code 2 (some .int), .fieldLink RX8 15 "GainTrees$Table" "most" "I", .arrayClass .int, .fieldLink RX8 21 "GainTrees$Table" "cells" "[I"] ++ wsX80)
def wsX9_init : List Cond := .code yX9_init cX9_init 1 none :: ([.methodLink RX9 3 objectInit, .instanceMethod objectInit, .code objectInit ⟨#[0xb1]⟩ 1 none, .arrayClass .int, .fieldLink RX9 9 "GainTrees$Tree" "attribute" "[I", .fieldLink RX9 15 "GainTrees$Tree" "cut" "[I", .arrayClass .boolean, .fieldLink RX9 18 "GainTrees$Tree" "byCut" "[Z", .fieldLink RX9 22 "GainTrees$Tree" "result" "[I", .fieldLink RX9 25 "GainTrees$Tree" "amount" "[I", .fieldLink RX9 28 "GainTrees$Tree" "kids" "[I", .fieldLink RX9 31 "GainTrees$Tree" "depth" "[I", .fieldLink RX9 34 "GainTrees$Tree" "parent" "[I", .fieldLink RX9 37 "GainTrees$Tree" "place" "[I", .fieldLink RX9 40 "GainTrees$Tree" "counts" "[I", .fieldLink RX9 43 "GainTrees$Tree" "after" "[I", .fieldLink RX9 46 "GainTrees$Tree" "wrongHere" "[I", .fieldLink RX9 49 "GainTrees$Tree" "wrongBelow" "[I"] ++ wsX90)
def wsX9_decisionOn_r1 : List Cond := [Cond.fieldLink RX9 22 "GainTrees$Tree" "result" "[I", Cond.methodLink RX9 77 yX9_leafOf, Cond.instanceMethod yX9_leafOf, Cond.selects RX9 yX9_leafOf yX9_leafOf, Cond.initialized RX9, Cond.code yX9_leafOf cX9_leafOf 5 (some .int), Cond.fieldLink RX9 28 "GainTrees$Tree" "kids" "[I", Cond.methodLink RX9 73 yX9_childFor, Cond.instanceMethod yX9_childFor, Cond.selects RX9 yX9_childFor yX9_childFor, Cond.code yX9_childFor cX9_childFor 5 (some .int), Cond.fieldLink RX9 9 "GainTrees$Tree" "attribute" "[I", Cond.fieldLink RX9 18 "GainTrees$Tree" "byCut" "[Z", Cond.fieldLink RX9 15 "GainTrees$Tree" "cut" "[I", Cond.methodLink RX9 64 yX8_cell, Cond.instanceMethod yX8_cell, Cond.selects RX8 yX8_cell yX8_cell, Cond.initialized RX8, Cond.code yX8_cell cX8_cell 3 (some .int), Cond.fieldLink RX8 15 "GainTrees$Table" "most" "I", Cond.fieldLink RX8 21 "GainTrees$Table" "cells" "[I", Cond.methodLink RX8 25 yX8_isColumn, Cond.static yX8_isColumn, Cond.code yX8_isColumn cX8_isColumn 1 (some .boolean)]
def wsX9_decisionOn_r2 : List Cond := [Cond.methodLink RX9 70 yX9_childOf, Cond.instanceMethod yX9_childOf, Cond.selects RX9 yX9_childOf yX9_childOf, Cond.code yX9_childOf cX9_childOf 5 (some .int), Cond.fieldLink RX9 52 "GainTrees$Tree" "nodes" "I", Cond.fieldLink RX9 43 "GainTrees$Tree" "after" "[I"]
def wsX9_decisionOn : List Cond := .code yX9_decisionOn cX9_decisionOn 3 (some .int) :: ((wsX9_decisionOn_r1 ++ wsX9_decisionOn_r2) ++ wsX90 ++ wsX80)
def wsX9_comesTo_r1 : List Cond := [Cond.fieldLink RX9 28 "GainTrees$Tree" "kids" "[I", Cond.methodLink RX9 73 yX9_childFor, Cond.instanceMethod yX9_childFor, Cond.selects RX9 yX9_childFor yX9_childFor, Cond.initialized RX9, Cond.code yX9_childFor cX9_childFor 5 (some .int), Cond.fieldLink RX9 9 "GainTrees$Tree" "attribute" "[I", Cond.fieldLink RX9 18 "GainTrees$Tree" "byCut" "[Z", Cond.fieldLink RX9 15 "GainTrees$Tree" "cut" "[I", Cond.methodLink RX9 64 yX8_cell, Cond.instanceMethod yX8_cell, Cond.selects RX8 yX8_cell yX8_cell, Cond.initialized RX8, Cond.code yX8_cell cX8_cell 3 (some .int), Cond.fieldLink RX8 15 "GainTrees$Table" "most" "I", Cond.fieldLink RX8 21 "GainTrees$Table" "cells" "[I", Cond.methodLink RX8 25 yX8_isColumn, Cond.static yX8_isColumn, Cond.code yX8_isColumn cX8_isColumn 1 (some .boolean), Cond.methodLink RX9 70 yX9_childOf, Cond.instanceMethod yX9_childOf, Cond.selects RX9 yX9_childOf yX9_childOf, Cond.code yX9_childOf cX9_childOf 5 (some .int), Cond.fieldLink RX9 52 "GainTrees$Tree" "nodes" "I"]
def wsX9_comesTo_r2 : List Cond := [Cond.fieldLink RX9 43 "GainTrees$Tree" "after" "[I"]
def wsX9_comesTo : List Cond := .code yX9_comesTo cX9_comesTo 6 (some .boolean) :: ((wsX9_comesTo_r1 ++ wsX9_comesTo_r2) ++ wsX90 ++ wsX80)
def wsX9_receive_r1 : List Cond := [Cond.fieldLink RX9 81 "GainTrees$Table" "size" "I", Cond.fieldLink RX9 28 "GainTrees$Tree" "kids" "[I", Cond.fieldLink RX9 52 "GainTrees$Tree" "nodes" "I", Cond.fieldLink RX9 22 "GainTrees$Tree" "result" "[I", Cond.methodLink RX9 84 yX8_classOf, Cond.instanceMethod yX8_classOf, Cond.selects RX8 yX8_classOf yX8_classOf, Cond.initialized RX8, Cond.code yX8_classOf cX8_classOf 2 (some .int), Cond.methodLink RX8 29 yX8_cell, Cond.instanceMethod yX8_cell, Cond.selects RX8 yX8_cell yX8_cell, Cond.code yX8_cell cX8_cell 3 (some .int), Cond.fieldLink RX8 15 "GainTrees$Table" "most" "I", Cond.fieldLink RX8 21 "GainTrees$Table" "cells" "[I", Cond.methodLink RX8 25 yX8_isColumn, Cond.static yX8_isColumn, Cond.code yX8_isColumn cX8_isColumn 1 (some .boolean), Cond.methodLink RX9 87 yX9_note, Cond.instanceMethod yX9_note, Cond.selects RX9 yX9_note yX9_note, Cond.initialized RX9, Cond.code yX9_note cX9_note 3 none, Cond.fieldLink RX9 25 "GainTrees$Tree" "amount" "[I"]
def wsX9_receive_r2 : List Cond := [Cond.fieldLink RX9 40 "GainTrees$Tree" "counts" "[I", Cond.methodLink RX9 73 yX9_childFor, Cond.instanceMethod yX9_childFor, Cond.selects RX9 yX9_childFor yX9_childFor, Cond.code yX9_childFor cX9_childFor 5 (some .int), Cond.fieldLink RX9 9 "GainTrees$Tree" "attribute" "[I", Cond.fieldLink RX9 18 "GainTrees$Tree" "byCut" "[Z", Cond.fieldLink RX9 15 "GainTrees$Tree" "cut" "[I", Cond.methodLink RX9 64 yX8_cell, Cond.methodLink RX9 70 yX9_childOf, Cond.instanceMethod yX9_childOf, Cond.selects RX9 yX9_childOf yX9_childOf, Cond.code yX9_childOf cX9_childOf 5 (some .int), Cond.fieldLink RX9 43 "GainTrees$Tree" "after" "[I", Cond.methodLink RX9 91 yX9_commonest, Cond.instanceMethod yX9_commonest, Cond.selects RX9 yX9_commonest yX9_commonest, Cond.code yX9_commonest cX9_commonest 4 (some .int), Cond.fieldLink RX9 34 "GainTrees$Tree" "parent" "[I"]
def wsX9_receive : List Cond := .code yX9_receive cX9_receive 5 none :: ((wsX9_receive_r1 ++ wsX9_receive_r2) ++ wsX80 ++ wsX90)
def wsX9_plain : List Cond := .code yX9_plain cX9_plain 3 (some .int) :: ([.fieldLink RX9 9 "GainTrees$Tree" "attribute" "[I", .fieldLink RX9 15 "GainTrees$Tree" "cut" "[I", .fieldLink RX9 22 "GainTrees$Tree" "result" "[I", .fieldLink RX9 25 "GainTrees$Tree" "amount" "[I", .fieldLink RX9 28 "GainTrees$Tree" "kids" "[I", .fieldLink RX9 31 "GainTrees$Tree" "depth" "[I"] ++ wsX90)
def wsX9_leaves : List Cond := .code yX9_leaves cX9_leaves 3 (some .int) :: ([.fieldLink RX9 52 "GainTrees$Tree" "nodes" "I", .fieldLink RX9 28 "GainTrees$Tree" "kids" "[I"] ++ wsX90)
def wsX9_countWrongAt : List Cond := .code yX9_countWrongAt cX9_countWrongAt 3 none :: ([.fieldLink RX9 22 "GainTrees$Tree" "result" "[I", .fieldLink RX9 46 "GainTrees$Tree" "wrongHere" "[I"] ++ wsX90)
def wsX9_countWrong_r1 : List Cond := [Cond.fieldLink RX9 52 "GainTrees$Tree" "nodes" "I", Cond.fieldLink RX9 46 "GainTrees$Tree" "wrongHere" "[I", Cond.fieldLink RX9 81 "GainTrees$Table" "size" "I", Cond.fieldLink RX9 28 "GainTrees$Tree" "kids" "[I", Cond.methodLink RX9 84 yX8_classOf, Cond.instanceMethod yX8_classOf, Cond.selects RX8 yX8_classOf yX8_classOf, Cond.initialized RX8, Cond.code yX8_classOf cX8_classOf 2 (some .int), Cond.methodLink RX8 29 yX8_cell, Cond.instanceMethod yX8_cell, Cond.selects RX8 yX8_cell yX8_cell, Cond.code yX8_cell cX8_cell 3 (some .int), Cond.fieldLink RX8 15 "GainTrees$Table" "most" "I", Cond.fieldLink RX8 21 "GainTrees$Table" "cells" "[I", Cond.methodLink RX8 25 yX8_isColumn, Cond.static yX8_isColumn, Cond.code yX8_isColumn cX8_isColumn 1 (some .boolean), Cond.methodLink RX9 104 yX9_countWrongAt, Cond.instanceMethod yX9_countWrongAt, Cond.selects RX9 yX9_countWrongAt yX9_countWrongAt, Cond.initialized RX9, Cond.code yX9_countWrongAt cX9_countWrongAt 3 none, Cond.fieldLink RX9 22 "GainTrees$Tree" "result" "[I"]
def wsX9_countWrong_r2 : List Cond := [Cond.methodLink RX9 73 yX9_childFor, Cond.instanceMethod yX9_childFor, Cond.selects RX9 yX9_childFor yX9_childFor, Cond.code yX9_childFor cX9_childFor 5 (some .int), Cond.fieldLink RX9 9 "GainTrees$Tree" "attribute" "[I", Cond.fieldLink RX9 18 "GainTrees$Tree" "byCut" "[Z", Cond.fieldLink RX9 15 "GainTrees$Tree" "cut" "[I", Cond.methodLink RX9 64 yX8_cell, Cond.methodLink RX9 70 yX9_childOf, Cond.instanceMethod yX9_childOf, Cond.selects RX9 yX9_childOf yX9_childOf, Cond.code yX9_childOf cX9_childOf 5 (some .int), Cond.fieldLink RX9 43 "GainTrees$Tree" "after" "[I"]
def wsX9_countWrong : List Cond := .code yX9_countWrong cX9_countWrong 5 none :: ((wsX9_countWrong_r1 ++ wsX9_countWrong_r2) ++ wsX90 ++ wsX80)
def wsX9_move : List Cond := .code yX9_move cX9_move 4 none :: ([.fieldLink RX9 9 "GainTrees$Tree" "attribute" "[I", .fieldLink RX9 15 "GainTrees$Tree" "cut" "[I", .fieldLink RX9 18 "GainTrees$Tree" "byCut" "[Z", .fieldLink RX9 22 "GainTrees$Tree" "result" "[I", .fieldLink RX9 25 "GainTrees$Tree" "amount" "[I", .fieldLink RX9 28 "GainTrees$Tree" "kids" "[I", .fieldLink RX9 31 "GainTrees$Tree" "depth" "[I", .fieldLink RX9 34 "GainTrees$Tree" "parent" "[I", .fieldLink RX9 37 "GainTrees$Tree" "place" "[I", .fieldLink RX9 40 "GainTrees$Tree" "counts" "[I"] ++ wsX90)
def wsX9_closeUp : List Cond := .code yX9_closeUp cX9_closeUp 5 none :: ([.fieldLink RX9 46 "GainTrees$Tree" "wrongHere" "[I", .fieldLink RX9 52 "GainTrees$Tree" "nodes" "I", .fieldLink RX9 28 "GainTrees$Tree" "kids" "[I", .fieldLink RX9 43 "GainTrees$Tree" "after" "[I", .fieldLink RX9 34 "GainTrees$Tree" "parent" "[I", .methodLink RX9 107 yX9_move, .instanceMethod yX9_move, .selects RX9 yX9_move yX9_move, .initialized RX9, .code yX9_move cX9_move 4 none, .fieldLink RX9 9 "GainTrees$Tree" "attribute" "[I", .fieldLink RX9 15 "GainTrees$Tree" "cut" "[I", .fieldLink RX9 18 "GainTrees$Tree" "byCut" "[Z", .fieldLink RX9 22 "GainTrees$Tree" "result" "[I", .fieldLink RX9 25 "GainTrees$Tree" "amount" "[I", .fieldLink RX9 31 "GainTrees$Tree" "depth" "[I", .fieldLink RX9 37 "GainTrees$Tree" "place" "[I", .fieldLink RX9 40 "GainTrees$Tree" "counts" "[I"] ++ wsX90)
def wsX9_trim_r1 : List Cond := [Cond.fieldLink RX9 52 "GainTrees$Tree" "nodes" "I", Cond.fieldLink RX9 28 "GainTrees$Tree" "kids" "[I", Cond.fieldLink RX9 49 "GainTrees$Tree" "wrongBelow" "[I", Cond.fieldLink RX9 46 "GainTrees$Tree" "wrongHere" "[I", Cond.methodLink RX9 94 yX9_countWrong, Cond.instanceMethod yX9_countWrong, Cond.selects RX9 yX9_countWrong yX9_countWrong, Cond.initialized RX9, Cond.code yX9_countWrong cX9_countWrong 5 none, Cond.fieldLink RX9 81 "GainTrees$Table" "size" "I", Cond.methodLink RX9 84 yX8_classOf, Cond.instanceMethod yX8_classOf, Cond.selects RX8 yX8_classOf yX8_classOf, Cond.initialized RX8, Cond.code yX8_classOf cX8_classOf 2 (some .int), Cond.methodLink RX8 29 yX8_cell, Cond.instanceMethod yX8_cell, Cond.selects RX8 yX8_cell yX8_cell, Cond.code yX8_cell cX8_cell 3 (some .int), Cond.fieldLink RX8 15 "GainTrees$Table" "most" "I", Cond.fieldLink RX8 21 "GainTrees$Table" "cells" "[I", Cond.methodLink RX8 25 yX8_isColumn, Cond.static yX8_isColumn, Cond.code yX8_isColumn cX8_isColumn 1 (some .boolean)]
def wsX9_trim_r2 : List Cond := [Cond.methodLink RX9 104 yX9_countWrongAt, Cond.instanceMethod yX9_countWrongAt, Cond.selects RX9 yX9_countWrongAt yX9_countWrongAt, Cond.code yX9_countWrongAt cX9_countWrongAt 3 none, Cond.fieldLink RX9 22 "GainTrees$Tree" "result" "[I", Cond.methodLink RX9 73 yX9_childFor, Cond.instanceMethod yX9_childFor, Cond.selects RX9 yX9_childFor yX9_childFor, Cond.code yX9_childFor cX9_childFor 5 (some .int), Cond.fieldLink RX9 9 "GainTrees$Tree" "attribute" "[I", Cond.fieldLink RX9 18 "GainTrees$Tree" "byCut" "[Z", Cond.fieldLink RX9 15 "GainTrees$Tree" "cut" "[I", Cond.methodLink RX9 64 yX8_cell, Cond.methodLink RX9 70 yX9_childOf, Cond.instanceMethod yX9_childOf, Cond.selects RX9 yX9_childOf yX9_childOf, Cond.code yX9_childOf cX9_childOf 5 (some .int), Cond.fieldLink RX9 43 "GainTrees$Tree" "after" "[I", Cond.methodLink RX9 60 yX9_makeLeaf, Cond.instanceMethod yX9_makeLeaf, Cond.selects RX9 yX9_makeLeaf yX9_makeLeaf, Cond.code yX9_makeLeaf cX9_makeLeaf 2 none, Cond.methodLink RX9 98 yX9_closeUp, Cond.instanceMethod yX9_closeUp]
def wsX9_trim_r3 : List Cond := [Cond.selects RX9 yX9_closeUp yX9_closeUp, Cond.code yX9_closeUp cX9_closeUp 5 none, Cond.fieldLink RX9 34 "GainTrees$Tree" "parent" "[I", Cond.methodLink RX9 107 yX9_move, Cond.instanceMethod yX9_move, Cond.selects RX9 yX9_move yX9_move, Cond.code yX9_move cX9_move 4 none, Cond.fieldLink RX9 25 "GainTrees$Tree" "amount" "[I", Cond.fieldLink RX9 31 "GainTrees$Tree" "depth" "[I", Cond.fieldLink RX9 37 "GainTrees$Tree" "place" "[I", Cond.fieldLink RX9 40 "GainTrees$Tree" "counts" "[I", Cond.methodLink RX9 101 yX9_finish, Cond.instanceMethod yX9_finish, Cond.selects RX9 yX9_finish yX9_finish, Cond.code yX9_finish cX9_finish 4 none]
def wsX9_trim : List Cond := .code yX9_trim cX9_trim 6 (some .int) :: ((wsX9_trim_r1 ++ (wsX9_trim_r2 ++ wsX9_trim_r3)) ++ wsX90 ++ wsX80)
def wsX10_init : List Cond := .code yX10_init cX10_init 2 none :: ([.methodLink RX10 3 objectInit, .instanceMethod objectInit, .code objectInit ⟨#[0xb1]⟩ 1 none, .fieldLink RX10 9 "GainTrees$Writer" "result" "LGainTrees$Bytes;"] ++ wsX100)
def wsX10_gap : List Cond := .code yX10_gap cX10_gap 1 none :: ([.fieldLink RX10 9 "GainTrees$Writer" "result" "LGainTrees$Bytes;", .fieldLink RX10 15 "GainTrees$Bytes" "told" "I", .methodLink RX10 21 yX0_add, .instanceMethod yX0_add, .selects RX0 yX0_add yX0_add, .initialized RX0, .code yX0_add cX0_add 2 none, .fieldLink RX0 21 "GainTrees$Bytes" "kept" "I", .fieldLink RX0 15 "GainTrees$Bytes" "data" "[B", .fieldLink RX0 25 "GainTrees$Bytes" "told" "I"] ++ wsX100 ++ wsX00)
def wsX10_word_r1 : List Cond := [Cond.fieldLink RX10 9 "GainTrees$Writer" "result" "LGainTrees$Bytes;", Cond.methodLink RX10 25 yX10_gap, Cond.instanceMethod yX10_gap, Cond.selects RX10 yX10_gap yX10_gap, Cond.initialized RX10, Cond.code yX10_gap cX10_gap 1 none, Cond.fieldLink RX10 15 "GainTrees$Bytes" "told" "I", Cond.methodLink RX10 21 yX0_add, Cond.instanceMethod yX0_add, Cond.selects RX0 yX0_add yX0_add, Cond.initialized RX0, Cond.code yX0_add cX0_add 2 none, Cond.fieldLink RX0 21 "GainTrees$Bytes" "kept" "I", Cond.fieldLink RX0 15 "GainTrees$Bytes" "data" "[B", Cond.fieldLink RX0 25 "GainTrees$Bytes" "told" "I", Cond.methodLink RX10 28 yJ0_length_8abf5, Cond.instanceMethod yJ0_length_8abf5, Cond.selects RJ0 yJ0_length_8abf5 yJ0_length_8abf5, Cond.initialized RJ0, Cond.code yJ0_length_8abf5 cJ0_length_8abf5 1 (some .int), Cond.fieldLink RJ0 9 "java/lang/String" "value" "[B", Cond.methodLink RJ0 335 yJ0_coder_7d493, Cond.instanceMethod yJ0_coder_7d493, Cond.selects RJ0 yJ0_coder_7d493 yJ0_coder_7d493]
def wsX10_word_r2 : List Cond := [Cond.code yJ0_coder_7d493 cJ0_coder_7d493 1 (some .byte), Cond.fieldLink RJ0 38 "java/lang/String" "COMPACT_STRINGS" "Z", Cond.fieldLink RJ0 15 "java/lang/String" "coder" "B", Cond.methodLink RX10 34 yJ0_charAt_5068e, Cond.instanceMethod yJ0_charAt_5068e, Cond.selects RJ0 yJ0_charAt_5068e yJ0_charAt_5068e, Cond.code yJ0_charAt_5068e cJ0_charAt_5068e 2 (some .char), Cond.methodLink RJ0 492 yJ0_isLatin1_aae02, Cond.instanceMethod yJ0_isLatin1_aae02, Cond.selects RJ0 yJ0_isLatin1_aae02 yJ0_isLatin1_aae02, Cond.code yJ0_isLatin1_aae02 cJ0_isLatin1_aae02 1 (some .boolean), Cond.methodLink RJ0 495 yJ1_charAt_3b067, Cond.static yJ1_charAt_3b067, Cond.initialized RJ1, Cond.code yJ1_charAt_3b067 cJ1_charAt_3b067 2 (some .char), Cond.methodLink RJ1 9 yJ0_checkIndex_df160, Cond.static yJ0_checkIndex_df160, Cond.code yJ0_checkIndex_df160 cJ0_checkIndex_df160 2 none, Cond.fieldLink RJ0 1053 "jdk/internal/util/Preconditions" "SIOOBE_FORMATTER" "Ljava/util/function/BiFunction;", Cond.methodLink RJ0 1059 yJ3_checkIndex_8e157, Cond.static yJ3_checkIndex_8e157, Cond.initialized RJ3, Cond.code yJ3_checkIndex_8e157 cJ3_checkIndex_8e157 3 (some .int), Cond.methodLink RJ0 498 yJ2_charAt_3b067]
def wsX10_word_r3 : List Cond := [Cond.static yJ2_charAt_3b067, Cond.initialized RJ2, Cond.code yJ2_charAt_3b067 cJ2_charAt_3b067 2 (some .char), Cond.methodLink RJ2 67 yJ2_checkIndex_2214a, Cond.static yJ2_checkIndex_2214a, Cond.code yJ2_checkIndex_2214a cJ2_checkIndex_2214a 2 none, Cond.methodLink RJ2 48 yJ2_length_9d52b, Cond.static yJ2_length_9d52b, Cond.code yJ2_length_9d52b cJ2_length_9d52b 1 (some .int), Cond.methodLink RJ2 414 yJ0_checkIndex_df160, Cond.methodLink RJ2 71 yJ2_getChar_3b067, Cond.static yJ2_getChar_3b067, Cond.code yJ2_getChar_3b067 cJ2_getChar_3b067 2 (some .char), Cond.fieldLink RJ2 44 "java/lang/StringUTF16" "$assertionsDisabled" "Z", Cond.fieldLink RJ2 59 "java/lang/StringUTF16" "HI_BYTE_SHIFT" "I", Cond.fieldLink RJ2 63 "java/lang/StringUTF16" "LO_BYTE_SHIFT" "I"]
def wsX10_word : List Cond := .code yX10_word cX10_word 3 none :: ((wsX10_word_r1 ++ (wsX10_word_r2 ++ wsX10_word_r3)) ++ wsX100 ++ wsX00)
def wsX10_nameIn_r1 : List Cond := [Cond.fieldLink RX10 9 "GainTrees$Writer" "result" "LGainTrees$Bytes;", Cond.methodLink RX10 25 yX10_gap, Cond.instanceMethod yX10_gap, Cond.selects RX10 yX10_gap yX10_gap, Cond.initialized RX10, Cond.code yX10_gap cX10_gap 1 none, Cond.fieldLink RX10 15 "GainTrees$Bytes" "told" "I", Cond.methodLink RX10 21 yX0_add, Cond.instanceMethod yX0_add, Cond.selects RX0 yX0_add yX0_add, Cond.initialized RX0, Cond.code yX0_add cX0_add 2 none, Cond.fieldLink RX0 21 "GainTrees$Bytes" "kept" "I", Cond.fieldLink RX0 15 "GainTrees$Bytes" "data" "[B", Cond.fieldLink RX0 25 "GainTrees$Bytes" "told" "I", Cond.methodLink RX10 38 yX2_lengthOf, Cond.instanceMethod yX2_lengthOf, Cond.selects RX2 yX2_lengthOf yX2_lengthOf, Cond.initialized RX2, Cond.code yX2_lengthOf cX2_lengthOf 2 (some .int), Cond.fieldLink RX2 15 "GainTrees$Names" "lengths" "[I", Cond.methodLink RX10 44 yX2_letterOf, Cond.instanceMethod yX2_letterOf, Cond.selects RX2 yX2_letterOf yX2_letterOf]
def wsX10_nameIn_r2 : List Cond := [Cond.code yX2_letterOf cX2_letterOf 3 (some .int), Cond.fieldLink RX2 11 "GainTrees$Names" "letters" "[B"]
def wsX10_nameIn : List Cond := .code yX10_nameIn cX10_nameIn 4 none :: ((wsX10_nameIn_r1 ++ wsX10_nameIn_r2) ++ wsX100 ++ wsX00 ++ wsX20)
def wsX10_whole : List Cond := .code yX10_whole cX10_whole 5 none :: ([.constant RX10 56 (1000000000), .fieldLink RX10 9 "GainTrees$Writer" "result" "LGainTrees$Bytes;", .methodLink RX10 21 yX0_add, .instanceMethod yX0_add, .selects RX0 yX0_add yX0_add, .initialized RX0, .code yX0_add cX0_add 2 none, .fieldLink RX0 21 "GainTrees$Bytes" "kept" "I", .fieldLink RX0 15 "GainTrees$Bytes" "data" "[B", .fieldLink RX0 25 "GainTrees$Bytes" "told" "I"] ++ wsX100 ++ wsX00)
def wsX10_number : List Cond := .code yX10_number cX10_number 5 none :: ([.fieldLink RX10 9 "GainTrees$Writer" "result" "LGainTrees$Bytes;", .methodLink RX10 48 Lib.Math.abs.name, .static Lib.Math.abs.name, .initialized "java/lang/Math", .code Lib.Math.abs.name Lib.Math.abs.code 1 (some .int), .methodLink RX10 25 yX10_gap, .instanceMethod yX10_gap, .selects RX10 yX10_gap yX10_gap, .initialized RX10, .code yX10_gap cX10_gap 1 none, .fieldLink RX10 15 "GainTrees$Bytes" "told" "I", .methodLink RX10 21 yX0_add, .instanceMethod yX0_add, .selects RX0 yX0_add yX0_add, .initialized RX0, .code yX0_add cX0_add 2 none, .fieldLink RX0 21 "GainTrees$Bytes" "kept" "I", .fieldLink RX0 15 "GainTrees$Bytes" "data" "[B", .fieldLink RX0 25 "GainTrees$Bytes" "told" "I", .methodLink RX10 53 yX10_whole, .instanceMethod yX10_whole, .selects RX10 yX10_whole yX10_whole, .code yX10_whole cX10_whole 5 none, .constant RX10 56 (1000000000)] ++ wsX100 ++ wsX00)
def wsX10_writeLabel_r1 : List Cond := [Cond.fieldLink RX10 111 "GainTrees$Tree" "parent" "[I", Cond.fieldLink RX10 97 "GainTrees$Tree" "byCut" "[Z", Cond.fieldLink RX10 91 "GainTrees$Tree" "attribute" "[I", Cond.fieldLink RX10 114 "GainTrees$Tree" "place" "[I", Cond.fieldLink RX10 9 "GainTrees$Writer" "result" "LGainTrees$Bytes;", Cond.methodLink RX10 117 yX2_valueSlot, Cond.static yX2_valueSlot, Cond.initialized RX2, Cond.code yX2_valueSlot cX2_valueSlot 2 (some .int), Cond.methodLink RX10 81 yX10_nameIn, Cond.instanceMethod yX10_nameIn, Cond.selects RX10 yX10_nameIn yX10_nameIn, Cond.initialized RX10, Cond.code yX10_nameIn cX10_nameIn 4 none, Cond.methodLink RX10 25 yX10_gap, Cond.instanceMethod yX10_gap, Cond.selects RX10 yX10_gap yX10_gap, Cond.code yX10_gap cX10_gap 1 none, Cond.fieldLink RX10 15 "GainTrees$Bytes" "told" "I", Cond.methodLink RX10 21 yX0_add, Cond.instanceMethod yX0_add, Cond.selects RX0 yX0_add yX0_add, Cond.initialized RX0, Cond.code yX0_add cX0_add 2 none]
def wsX10_writeLabel_r2 : List Cond := [Cond.fieldLink RX0 21 "GainTrees$Bytes" "kept" "I", Cond.fieldLink RX0 15 "GainTrees$Bytes" "data" "[B", Cond.fieldLink RX0 25 "GainTrees$Bytes" "told" "I", Cond.methodLink RX10 38 yX2_lengthOf, Cond.instanceMethod yX2_lengthOf, Cond.selects RX2 yX2_lengthOf yX2_lengthOf, Cond.code yX2_lengthOf cX2_lengthOf 2 (some .int), Cond.fieldLink RX2 15 "GainTrees$Names" "lengths" "[I", Cond.methodLink RX10 44 yX2_letterOf, Cond.instanceMethod yX2_letterOf, Cond.selects RX2 yX2_letterOf yX2_letterOf, Cond.code yX2_letterOf cX2_letterOf 3 (some .int), Cond.fieldLink RX2 11 "GainTrees$Names" "letters" "[B", Cond.methodLink RX10 75 yX10_word, Cond.instanceMethod yX10_word, Cond.selects RX10 yX10_word yX10_word, Cond.code yX10_word cX10_word 3 none, Cond.methodLink RX10 28 yJ0_length_8abf5, Cond.instanceMethod yJ0_length_8abf5, Cond.selects RJ0 yJ0_length_8abf5 yJ0_length_8abf5, Cond.initialized RJ0, Cond.code yJ0_length_8abf5 cJ0_length_8abf5 1 (some .int), Cond.fieldLink RJ0 9 "java/lang/String" "value" "[B", Cond.methodLink RJ0 335 yJ0_coder_7d493]
def wsX10_writeLabel_r3 : List Cond := [Cond.instanceMethod yJ0_coder_7d493, Cond.selects RJ0 yJ0_coder_7d493 yJ0_coder_7d493, Cond.code yJ0_coder_7d493 cJ0_coder_7d493 1 (some .byte), Cond.fieldLink RJ0 38 "java/lang/String" "COMPACT_STRINGS" "Z", Cond.fieldLink RJ0 15 "java/lang/String" "coder" "B", Cond.methodLink RX10 34 yJ0_charAt_5068e, Cond.instanceMethod yJ0_charAt_5068e, Cond.selects RJ0 yJ0_charAt_5068e yJ0_charAt_5068e, Cond.code yJ0_charAt_5068e cJ0_charAt_5068e 2 (some .char), Cond.methodLink RJ0 492 yJ0_isLatin1_aae02, Cond.instanceMethod yJ0_isLatin1_aae02, Cond.selects RJ0 yJ0_isLatin1_aae02 yJ0_isLatin1_aae02, Cond.code yJ0_isLatin1_aae02 cJ0_isLatin1_aae02 1 (some .boolean), Cond.methodLink RJ0 495 yJ1_charAt_3b067, Cond.static yJ1_charAt_3b067, Cond.initialized RJ1, Cond.code yJ1_charAt_3b067 cJ1_charAt_3b067 2 (some .char), Cond.methodLink RJ1 9 yJ0_checkIndex_df160, Cond.static yJ0_checkIndex_df160, Cond.code yJ0_checkIndex_df160 cJ0_checkIndex_df160 2 none, Cond.fieldLink RJ0 1053 "jdk/internal/util/Preconditions" "SIOOBE_FORMATTER" "Ljava/util/function/BiFunction;", Cond.methodLink RJ0 1059 yJ3_checkIndex_8e157, Cond.static yJ3_checkIndex_8e157, Cond.initialized RJ3]
def wsX10_writeLabel_r4 : List Cond := [Cond.code yJ3_checkIndex_8e157 cJ3_checkIndex_8e157 3 (some .int), Cond.methodLink RJ0 498 yJ2_charAt_3b067, Cond.static yJ2_charAt_3b067, Cond.initialized RJ2, Cond.code yJ2_charAt_3b067 cJ2_charAt_3b067 2 (some .char), Cond.methodLink RJ2 67 yJ2_checkIndex_2214a, Cond.static yJ2_checkIndex_2214a, Cond.code yJ2_checkIndex_2214a cJ2_checkIndex_2214a 2 none, Cond.methodLink RJ2 48 yJ2_length_9d52b, Cond.static yJ2_length_9d52b, Cond.code yJ2_length_9d52b cJ2_length_9d52b 1 (some .int), Cond.methodLink RJ2 414 yJ0_checkIndex_df160, Cond.methodLink RJ2 71 yJ2_getChar_3b067, Cond.static yJ2_getChar_3b067, Cond.code yJ2_getChar_3b067 cJ2_getChar_3b067 2 (some .char), Cond.fieldLink RJ2 44 "java/lang/StringUTF16" "$assertionsDisabled" "Z", Cond.fieldLink RJ2 59 "java/lang/StringUTF16" "HI_BYTE_SHIFT" "I", Cond.fieldLink RJ2 63 "java/lang/StringUTF16" "LO_BYTE_SHIFT" "I"]
def wsX10_writeLabel : List Cond := .code yX10_writeLabel cX10_writeLabel 5 none :: ((wsX10_writeLabel_r1 ++ (wsX10_writeLabel_r2 ++ (wsX10_writeLabel_r3 ++ wsX10_writeLabel_r4))) ++ wsX90 ++ wsX100 ++ wsX00 ++ wsX20)
def wsX10_closeForks_r1 : List Cond := [Cond.fieldLink RX10 111 "GainTrees$Tree" "parent" "[I", Cond.fieldLink RX10 114 "GainTrees$Tree" "place" "[I", Cond.fieldLink RX10 69 "GainTrees$Tree" "kids" "[I", Cond.fieldLink RX10 97 "GainTrees$Tree" "byCut" "[Z", Cond.methodLink RX10 75 yX10_word, Cond.instanceMethod yX10_word, Cond.selects RX10 yX10_word yX10_word, Cond.initialized RX10, Cond.code yX10_word cX10_word 3 none, Cond.fieldLink RX10 9 "GainTrees$Writer" "result" "LGainTrees$Bytes;", Cond.methodLink RX10 25 yX10_gap, Cond.instanceMethod yX10_gap, Cond.selects RX10 yX10_gap yX10_gap, Cond.code yX10_gap cX10_gap 1 none, Cond.fieldLink RX10 15 "GainTrees$Bytes" "told" "I", Cond.methodLink RX10 21 yX0_add, Cond.instanceMethod yX0_add, Cond.selects RX0 yX0_add yX0_add, Cond.initialized RX0, Cond.code yX0_add cX0_add 2 none, Cond.fieldLink RX0 21 "GainTrees$Bytes" "kept" "I", Cond.fieldLink RX0 15 "GainTrees$Bytes" "data" "[B", Cond.fieldLink RX0 25 "GainTrees$Bytes" "told" "I", Cond.methodLink RX10 28 yJ0_length_8abf5]
def wsX10_closeForks_r2 : List Cond := [Cond.instanceMethod yJ0_length_8abf5, Cond.selects RJ0 yJ0_length_8abf5 yJ0_length_8abf5, Cond.initialized RJ0, Cond.code yJ0_length_8abf5 cJ0_length_8abf5 1 (some .int), Cond.fieldLink RJ0 9 "java/lang/String" "value" "[B", Cond.methodLink RJ0 335 yJ0_coder_7d493, Cond.instanceMethod yJ0_coder_7d493, Cond.selects RJ0 yJ0_coder_7d493 yJ0_coder_7d493, Cond.code yJ0_coder_7d493 cJ0_coder_7d493 1 (some .byte), Cond.fieldLink RJ0 38 "java/lang/String" "COMPACT_STRINGS" "Z", Cond.fieldLink RJ0 15 "java/lang/String" "coder" "B", Cond.methodLink RX10 34 yJ0_charAt_5068e, Cond.instanceMethod yJ0_charAt_5068e, Cond.selects RJ0 yJ0_charAt_5068e yJ0_charAt_5068e, Cond.code yJ0_charAt_5068e cJ0_charAt_5068e 2 (some .char), Cond.methodLink RJ0 492 yJ0_isLatin1_aae02, Cond.instanceMethod yJ0_isLatin1_aae02, Cond.selects RJ0 yJ0_isLatin1_aae02 yJ0_isLatin1_aae02, Cond.code yJ0_isLatin1_aae02 cJ0_isLatin1_aae02 1 (some .boolean), Cond.methodLink RJ0 495 yJ1_charAt_3b067, Cond.static yJ1_charAt_3b067, Cond.initialized RJ1, Cond.code yJ1_charAt_3b067 cJ1_charAt_3b067 2 (some .char), Cond.methodLink RJ1 9 yJ0_checkIndex_df160]
def wsX10_closeForks_r3 : List Cond := [Cond.static yJ0_checkIndex_df160, Cond.code yJ0_checkIndex_df160 cJ0_checkIndex_df160 2 none, Cond.fieldLink RJ0 1053 "jdk/internal/util/Preconditions" "SIOOBE_FORMATTER" "Ljava/util/function/BiFunction;", Cond.methodLink RJ0 1059 yJ3_checkIndex_8e157, Cond.static yJ3_checkIndex_8e157, Cond.initialized RJ3, Cond.code yJ3_checkIndex_8e157 cJ3_checkIndex_8e157 3 (some .int), Cond.methodLink RJ0 498 yJ2_charAt_3b067, Cond.static yJ2_charAt_3b067, Cond.initialized RJ2, Cond.code yJ2_charAt_3b067 cJ2_charAt_3b067 2 (some .char), Cond.methodLink RJ2 67 yJ2_checkIndex_2214a, Cond.static yJ2_checkIndex_2214a, Cond.code yJ2_checkIndex_2214a cJ2_checkIndex_2214a 2 none, Cond.methodLink RJ2 48 yJ2_length_9d52b, Cond.static yJ2_length_9d52b, Cond.code yJ2_length_9d52b cJ2_length_9d52b 1 (some .int), Cond.methodLink RJ2 414 yJ0_checkIndex_df160, Cond.methodLink RJ2 71 yJ2_getChar_3b067, Cond.static yJ2_getChar_3b067, Cond.code yJ2_getChar_3b067 cJ2_getChar_3b067 2 (some .char), Cond.fieldLink RJ2 44 "java/lang/StringUTF16" "$assertionsDisabled" "Z", Cond.fieldLink RJ2 59 "java/lang/StringUTF16" "HI_BYTE_SHIFT" "I", Cond.fieldLink RJ2 63 "java/lang/StringUTF16" "LO_BYTE_SHIFT" "I"]
def wsX10_closeForks : List Cond := .code yX10_closeForks cX10_closeForks 6 none :: ((wsX10_closeForks_r1 ++ (wsX10_closeForks_r2 ++ wsX10_closeForks_r3)) ++ wsX90 ++ wsX100 ++ wsX00)
def wsX10_writeTree_r1 : List Cond := [Cond.fieldLink RX10 9 "GainTrees$Writer" "result" "LGainTrees$Bytes;", Cond.fieldLink RX10 60 "GainTrees$Tree" "nodes" "I", Cond.fieldLink RX10 69 "GainTrees$Tree" "kids" "[I", Cond.fieldLink RX10 79 "GainTrees$Tree" "result" "[I", Cond.fieldLink RX10 91 "GainTrees$Tree" "attribute" "[I", Cond.fieldLink RX10 97 "GainTrees$Tree" "byCut" "[Z", Cond.fieldLink RX10 105 "GainTrees$Tree" "cut" "[I", Cond.methodLink RX10 57 yX0_shorten, Cond.instanceMethod yX0_shorten, Cond.selects RX0 yX0_shorten yX0_shorten, Cond.initialized RX0, Cond.code yX0_shorten cX0_shorten 2 none, Cond.fieldLink RX0 21 "GainTrees$Bytes" "kept" "I", Cond.fieldLink RX0 25 "GainTrees$Bytes" "told" "I", Cond.methodLink RX10 65 yX10_writeLabel, Cond.instanceMethod yX10_writeLabel, Cond.selects RX10 yX10_writeLabel yX10_writeLabel, Cond.initialized RX10, Cond.code yX10_writeLabel cX10_writeLabel 5 none, Cond.fieldLink RX10 111 "GainTrees$Tree" "parent" "[I", Cond.fieldLink RX10 114 "GainTrees$Tree" "place" "[I", Cond.methodLink RX10 117 yX2_valueSlot, Cond.static yX2_valueSlot, Cond.initialized RX2]
def wsX10_writeTree_r2 : List Cond := [Cond.code yX2_valueSlot cX2_valueSlot 2 (some .int), Cond.methodLink RX10 81 yX10_nameIn, Cond.instanceMethod yX10_nameIn, Cond.selects RX10 yX10_nameIn yX10_nameIn, Cond.code yX10_nameIn cX10_nameIn 4 none, Cond.methodLink RX10 25 yX10_gap, Cond.instanceMethod yX10_gap, Cond.selects RX10 yX10_gap yX10_gap, Cond.code yX10_gap cX10_gap 1 none, Cond.fieldLink RX10 15 "GainTrees$Bytes" "told" "I", Cond.methodLink RX10 21 yX0_add, Cond.instanceMethod yX0_add, Cond.selects RX0 yX0_add yX0_add, Cond.code yX0_add cX0_add 2 none, Cond.fieldLink RX0 15 "GainTrees$Bytes" "data" "[B", Cond.methodLink RX10 38 yX2_lengthOf, Cond.instanceMethod yX2_lengthOf, Cond.selects RX2 yX2_lengthOf yX2_lengthOf, Cond.code yX2_lengthOf cX2_lengthOf 2 (some .int), Cond.fieldLink RX2 15 "GainTrees$Names" "lengths" "[I", Cond.methodLink RX10 44 yX2_letterOf, Cond.instanceMethod yX2_letterOf, Cond.selects RX2 yX2_letterOf yX2_letterOf, Cond.code yX2_letterOf cX2_letterOf 3 (some .int)]
def wsX10_writeTree_r3 : List Cond := [Cond.fieldLink RX2 11 "GainTrees$Names" "letters" "[B", Cond.methodLink RX10 75 yX10_word, Cond.instanceMethod yX10_word, Cond.selects RX10 yX10_word yX10_word, Cond.code yX10_word cX10_word 3 none, Cond.methodLink RX10 28 yJ0_length_8abf5, Cond.instanceMethod yJ0_length_8abf5, Cond.selects RJ0 yJ0_length_8abf5 yJ0_length_8abf5, Cond.initialized RJ0, Cond.code yJ0_length_8abf5 cJ0_length_8abf5 1 (some .int), Cond.fieldLink RJ0 9 "java/lang/String" "value" "[B", Cond.methodLink RJ0 335 yJ0_coder_7d493, Cond.instanceMethod yJ0_coder_7d493, Cond.selects RJ0 yJ0_coder_7d493 yJ0_coder_7d493, Cond.code yJ0_coder_7d493 cJ0_coder_7d493 1 (some .byte), Cond.fieldLink RJ0 38 "java/lang/String" "COMPACT_STRINGS" "Z", Cond.fieldLink RJ0 15 "java/lang/String" "coder" "B", Cond.methodLink RX10 34 yJ0_charAt_5068e, Cond.instanceMethod yJ0_charAt_5068e, Cond.selects RJ0 yJ0_charAt_5068e yJ0_charAt_5068e, Cond.code yJ0_charAt_5068e cJ0_charAt_5068e 2 (some .char), Cond.methodLink RJ0 492 yJ0_isLatin1_aae02, Cond.instanceMethod yJ0_isLatin1_aae02, Cond.selects RJ0 yJ0_isLatin1_aae02 yJ0_isLatin1_aae02]
def wsX10_writeTree_r4 : List Cond := [Cond.code yJ0_isLatin1_aae02 cJ0_isLatin1_aae02 1 (some .boolean), Cond.methodLink RJ0 495 yJ1_charAt_3b067, Cond.static yJ1_charAt_3b067, Cond.initialized RJ1, Cond.code yJ1_charAt_3b067 cJ1_charAt_3b067 2 (some .char), Cond.methodLink RJ1 9 yJ0_checkIndex_df160, Cond.static yJ0_checkIndex_df160, Cond.code yJ0_checkIndex_df160 cJ0_checkIndex_df160 2 none, Cond.fieldLink RJ0 1053 "jdk/internal/util/Preconditions" "SIOOBE_FORMATTER" "Ljava/util/function/BiFunction;", Cond.methodLink RJ0 1059 yJ3_checkIndex_8e157, Cond.static yJ3_checkIndex_8e157, Cond.initialized RJ3, Cond.code yJ3_checkIndex_8e157 cJ3_checkIndex_8e157 3 (some .int), Cond.methodLink RJ0 498 yJ2_charAt_3b067, Cond.static yJ2_charAt_3b067, Cond.initialized RJ2, Cond.code yJ2_charAt_3b067 cJ2_charAt_3b067 2 (some .char), Cond.methodLink RJ2 67 yJ2_checkIndex_2214a, Cond.static yJ2_checkIndex_2214a, Cond.code yJ2_checkIndex_2214a cJ2_checkIndex_2214a 2 none, Cond.methodLink RJ2 48 yJ2_length_9d52b, Cond.static yJ2_length_9d52b, Cond.code yJ2_length_9d52b cJ2_length_9d52b 1 (some .int), Cond.methodLink RJ2 414 yJ0_checkIndex_df160]
def wsX10_writeTree_r5 : List Cond := [Cond.methodLink RJ2 71 yJ2_getChar_3b067, Cond.static yJ2_getChar_3b067, Cond.code yJ2_getChar_3b067 cJ2_getChar_3b067 2 (some .char), Cond.fieldLink RJ2 44 "java/lang/StringUTF16" "$assertionsDisabled" "Z", Cond.fieldLink RJ2 59 "java/lang/StringUTF16" "HI_BYTE_SHIFT" "I", Cond.fieldLink RJ2 63 "java/lang/StringUTF16" "LO_BYTE_SHIFT" "I", Cond.methodLink RX10 85 yX10_closeForks, Cond.instanceMethod yX10_closeForks, Cond.selects RX10 yX10_closeForks yX10_closeForks, Cond.code yX10_closeForks cX10_closeForks 6 none, Cond.methodLink RX10 94 yX2_attributeSlot, Cond.static yX2_attributeSlot, Cond.code yX2_attributeSlot cX2_attributeSlot 1 (some .int), Cond.methodLink RX10 108 yX10_number, Cond.instanceMethod yX10_number, Cond.selects RX10 yX10_number yX10_number, Cond.code yX10_number cX10_number 5 none, Cond.methodLink RX10 48 Lib.Math.abs.name, Cond.static Lib.Math.abs.name, Cond.initialized "java/lang/Math", Cond.code Lib.Math.abs.name Lib.Math.abs.code 1 (some .int), Cond.methodLink RX10 53 yX10_whole, Cond.instanceMethod yX10_whole, Cond.selects RX10 yX10_whole yX10_whole]
def wsX10_writeTree_r6 : List Cond := [Cond.code yX10_whole cX10_whole 5 none, Cond.constant RX10 56 (1000000000)]
def wsX10_writeTree : List Cond := .code yX10_writeTree cX10_writeTree 4 none :: ((wsX10_writeTree_r1 ++ (wsX10_writeTree_r2 ++ (wsX10_writeTree_r3 ++ (wsX10_writeTree_r4 ++ (wsX10_writeTree_r5 ++ wsX10_writeTree_r6))))) ++ wsX100 ++ wsX90 ++ wsX00 ++ wsX20)
def wsX10_writeCondition_r1 : List Cond := [Cond.fieldLink RX10 154 "GainTrees$Rules" "attribute" "[I", Cond.fieldLink RX10 155 "GainTrees$Rules" "sort" "[I", Cond.fieldLink RX10 160 "GainTrees$Rules" "bound" "[I", Cond.methodLink RX10 94 yX2_attributeSlot, Cond.static yX2_attributeSlot, Cond.initialized RX2, Cond.code yX2_attributeSlot cX2_attributeSlot 1 (some .int), Cond.methodLink RX10 81 yX10_nameIn, Cond.instanceMethod yX10_nameIn, Cond.selects RX10 yX10_nameIn yX10_nameIn, Cond.initialized RX10, Cond.code yX10_nameIn cX10_nameIn 4 none, Cond.fieldLink RX10 9 "GainTrees$Writer" "result" "LGainTrees$Bytes;", Cond.methodLink RX10 25 yX10_gap, Cond.instanceMethod yX10_gap, Cond.selects RX10 yX10_gap yX10_gap, Cond.code yX10_gap cX10_gap 1 none, Cond.fieldLink RX10 15 "GainTrees$Bytes" "told" "I", Cond.methodLink RX10 21 yX0_add, Cond.instanceMethod yX0_add, Cond.selects RX0 yX0_add yX0_add, Cond.initialized RX0, Cond.code yX0_add cX0_add 2 none, Cond.fieldLink RX0 21 "GainTrees$Bytes" "kept" "I"]
def wsX10_writeCondition_r2 : List Cond := [Cond.fieldLink RX0 15 "GainTrees$Bytes" "data" "[B", Cond.fieldLink RX0 25 "GainTrees$Bytes" "told" "I", Cond.methodLink RX10 38 yX2_lengthOf, Cond.instanceMethod yX2_lengthOf, Cond.selects RX2 yX2_lengthOf yX2_lengthOf, Cond.code yX2_lengthOf cX2_lengthOf 2 (some .int), Cond.fieldLink RX2 15 "GainTrees$Names" "lengths" "[I", Cond.methodLink RX10 44 yX2_letterOf, Cond.instanceMethod yX2_letterOf, Cond.selects RX2 yX2_letterOf yX2_letterOf, Cond.code yX2_letterOf cX2_letterOf 3 (some .int), Cond.fieldLink RX2 11 "GainTrees$Names" "letters" "[B", Cond.methodLink RX10 75 yX10_word, Cond.instanceMethod yX10_word, Cond.selects RX10 yX10_word yX10_word, Cond.code yX10_word cX10_word 3 none, Cond.methodLink RX10 28 yJ0_length_8abf5, Cond.instanceMethod yJ0_length_8abf5, Cond.selects RJ0 yJ0_length_8abf5 yJ0_length_8abf5, Cond.initialized RJ0, Cond.code yJ0_length_8abf5 cJ0_length_8abf5 1 (some .int), Cond.fieldLink RJ0 9 "java/lang/String" "value" "[B", Cond.methodLink RJ0 335 yJ0_coder_7d493, Cond.instanceMethod yJ0_coder_7d493]
def wsX10_writeCondition_r3 : List Cond := [Cond.selects RJ0 yJ0_coder_7d493 yJ0_coder_7d493, Cond.code yJ0_coder_7d493 cJ0_coder_7d493 1 (some .byte), Cond.fieldLink RJ0 38 "java/lang/String" "COMPACT_STRINGS" "Z", Cond.fieldLink RJ0 15 "java/lang/String" "coder" "B", Cond.methodLink RX10 34 yJ0_charAt_5068e, Cond.instanceMethod yJ0_charAt_5068e, Cond.selects RJ0 yJ0_charAt_5068e yJ0_charAt_5068e, Cond.code yJ0_charAt_5068e cJ0_charAt_5068e 2 (some .char), Cond.methodLink RJ0 492 yJ0_isLatin1_aae02, Cond.instanceMethod yJ0_isLatin1_aae02, Cond.selects RJ0 yJ0_isLatin1_aae02 yJ0_isLatin1_aae02, Cond.code yJ0_isLatin1_aae02 cJ0_isLatin1_aae02 1 (some .boolean), Cond.methodLink RJ0 495 yJ1_charAt_3b067, Cond.static yJ1_charAt_3b067, Cond.initialized RJ1, Cond.code yJ1_charAt_3b067 cJ1_charAt_3b067 2 (some .char), Cond.methodLink RJ1 9 yJ0_checkIndex_df160, Cond.static yJ0_checkIndex_df160, Cond.code yJ0_checkIndex_df160 cJ0_checkIndex_df160 2 none, Cond.fieldLink RJ0 1053 "jdk/internal/util/Preconditions" "SIOOBE_FORMATTER" "Ljava/util/function/BiFunction;", Cond.methodLink RJ0 1059 yJ3_checkIndex_8e157, Cond.static yJ3_checkIndex_8e157, Cond.initialized RJ3, Cond.code yJ3_checkIndex_8e157 cJ3_checkIndex_8e157 3 (some .int)]
def wsX10_writeCondition_r4 : List Cond := [Cond.methodLink RJ0 498 yJ2_charAt_3b067, Cond.static yJ2_charAt_3b067, Cond.initialized RJ2, Cond.code yJ2_charAt_3b067 cJ2_charAt_3b067 2 (some .char), Cond.methodLink RJ2 67 yJ2_checkIndex_2214a, Cond.static yJ2_checkIndex_2214a, Cond.code yJ2_checkIndex_2214a cJ2_checkIndex_2214a 2 none, Cond.methodLink RJ2 48 yJ2_length_9d52b, Cond.static yJ2_length_9d52b, Cond.code yJ2_length_9d52b cJ2_length_9d52b 1 (some .int), Cond.methodLink RJ2 414 yJ0_checkIndex_df160, Cond.methodLink RJ2 71 yJ2_getChar_3b067, Cond.static yJ2_getChar_3b067, Cond.code yJ2_getChar_3b067 cJ2_getChar_3b067 2 (some .char), Cond.fieldLink RJ2 44 "java/lang/StringUTF16" "$assertionsDisabled" "Z", Cond.fieldLink RJ2 59 "java/lang/StringUTF16" "HI_BYTE_SHIFT" "I", Cond.fieldLink RJ2 63 "java/lang/StringUTF16" "LO_BYTE_SHIFT" "I", Cond.methodLink RX10 117 yX2_valueSlot, Cond.static yX2_valueSlot, Cond.code yX2_valueSlot cX2_valueSlot 2 (some .int), Cond.methodLink RX10 108 yX10_number, Cond.instanceMethod yX10_number, Cond.selects RX10 yX10_number yX10_number, Cond.code yX10_number cX10_number 5 none]
def wsX10_writeCondition_r5 : List Cond := [Cond.methodLink RX10 48 Lib.Math.abs.name, Cond.static Lib.Math.abs.name, Cond.initialized "java/lang/Math", Cond.code Lib.Math.abs.name Lib.Math.abs.code 1 (some .int), Cond.methodLink RX10 53 yX10_whole, Cond.instanceMethod yX10_whole, Cond.selects RX10 yX10_whole yX10_whole, Cond.code yX10_whole cX10_whole 5 none, Cond.constant RX10 56 (1000000000)]
def wsX10_writeCondition : List Cond := .code yX10_writeCondition cX10_writeCondition 5 none :: ((wsX10_writeCondition_r1 ++ (wsX10_writeCondition_r2 ++ (wsX10_writeCondition_r3 ++ (wsX10_writeCondition_r4 ++ wsX10_writeCondition_r5)))) ++ wsX50 ++ wsX100 ++ wsX00 ++ wsX20)
def wsX10_writeRules_r1 : List Cond := [Cond.fieldLink RX10 9 "GainTrees$Writer" "result" "LGainTrees$Bytes;", Cond.fieldLink RX10 124 "GainTrees$Rules" "many" "I", Cond.fieldLink RX10 129 "GainTrees$Rules" "ranked" "[I", Cond.fieldLink RX10 132 "GainTrees$Rules" "size" "[I", Cond.fieldLink RX10 139 "GainTrees$Rules" "start" "[I", Cond.fieldLink RX10 151 "GainTrees$Rules" "otherwise" "I", Cond.methodLink RX10 57 yX0_shorten, Cond.instanceMethod yX0_shorten, Cond.selects RX0 yX0_shorten yX0_shorten, Cond.initialized RX0, Cond.code yX0_shorten cX0_shorten 2 none, Cond.fieldLink RX0 21 "GainTrees$Bytes" "kept" "I", Cond.fieldLink RX0 25 "GainTrees$Bytes" "told" "I", Cond.methodLink RX10 75 yX10_word, Cond.instanceMethod yX10_word, Cond.selects RX10 yX10_word yX10_word, Cond.initialized RX10, Cond.code yX10_word cX10_word 3 none, Cond.methodLink RX10 25 yX10_gap, Cond.instanceMethod yX10_gap, Cond.selects RX10 yX10_gap yX10_gap, Cond.code yX10_gap cX10_gap 1 none, Cond.fieldLink RX10 15 "GainTrees$Bytes" "told" "I", Cond.methodLink RX10 21 yX0_add]
def wsX10_writeRules_r2 : List Cond := [Cond.instanceMethod yX0_add, Cond.selects RX0 yX0_add yX0_add, Cond.code yX0_add cX0_add 2 none, Cond.fieldLink RX0 15 "GainTrees$Bytes" "data" "[B", Cond.methodLink RX10 28 yJ0_length_8abf5, Cond.instanceMethod yJ0_length_8abf5, Cond.selects RJ0 yJ0_length_8abf5 yJ0_length_8abf5, Cond.initialized RJ0, Cond.code yJ0_length_8abf5 cJ0_length_8abf5 1 (some .int), Cond.fieldLink RJ0 9 "java/lang/String" "value" "[B", Cond.methodLink RJ0 335 yJ0_coder_7d493, Cond.instanceMethod yJ0_coder_7d493, Cond.selects RJ0 yJ0_coder_7d493 yJ0_coder_7d493, Cond.code yJ0_coder_7d493 cJ0_coder_7d493 1 (some .byte), Cond.fieldLink RJ0 38 "java/lang/String" "COMPACT_STRINGS" "Z", Cond.fieldLink RJ0 15 "java/lang/String" "coder" "B", Cond.methodLink RX10 34 yJ0_charAt_5068e, Cond.instanceMethod yJ0_charAt_5068e, Cond.selects RJ0 yJ0_charAt_5068e yJ0_charAt_5068e, Cond.code yJ0_charAt_5068e cJ0_charAt_5068e 2 (some .char), Cond.methodLink RJ0 492 yJ0_isLatin1_aae02, Cond.instanceMethod yJ0_isLatin1_aae02, Cond.selects RJ0 yJ0_isLatin1_aae02 yJ0_isLatin1_aae02, Cond.code yJ0_isLatin1_aae02 cJ0_isLatin1_aae02 1 (some .boolean)]
def wsX10_writeRules_r3 : List Cond := [Cond.methodLink RJ0 495 yJ1_charAt_3b067, Cond.static yJ1_charAt_3b067, Cond.initialized RJ1, Cond.code yJ1_charAt_3b067 cJ1_charAt_3b067 2 (some .char), Cond.methodLink RJ1 9 yJ0_checkIndex_df160, Cond.static yJ0_checkIndex_df160, Cond.code yJ0_checkIndex_df160 cJ0_checkIndex_df160 2 none, Cond.fieldLink RJ0 1053 "jdk/internal/util/Preconditions" "SIOOBE_FORMATTER" "Ljava/util/function/BiFunction;", Cond.methodLink RJ0 1059 yJ3_checkIndex_8e157, Cond.static yJ3_checkIndex_8e157, Cond.initialized RJ3, Cond.code yJ3_checkIndex_8e157 cJ3_checkIndex_8e157 3 (some .int), Cond.methodLink RJ0 498 yJ2_charAt_3b067, Cond.static yJ2_charAt_3b067, Cond.initialized RJ2, Cond.code yJ2_charAt_3b067 cJ2_charAt_3b067 2 (some .char), Cond.methodLink RJ2 67 yJ2_checkIndex_2214a, Cond.static yJ2_checkIndex_2214a, Cond.code yJ2_checkIndex_2214a cJ2_checkIndex_2214a 2 none, Cond.methodLink RJ2 48 yJ2_length_9d52b, Cond.static yJ2_length_9d52b, Cond.code yJ2_length_9d52b cJ2_length_9d52b 1 (some .int), Cond.methodLink RJ2 414 yJ0_checkIndex_df160, Cond.methodLink RJ2 71 yJ2_getChar_3b067]
def wsX10_writeRules_r4 : List Cond := [Cond.static yJ2_getChar_3b067, Cond.code yJ2_getChar_3b067 cJ2_getChar_3b067 2 (some .char), Cond.fieldLink RJ2 44 "java/lang/StringUTF16" "$assertionsDisabled" "Z", Cond.fieldLink RJ2 59 "java/lang/StringUTF16" "HI_BYTE_SHIFT" "I", Cond.fieldLink RJ2 63 "java/lang/StringUTF16" "LO_BYTE_SHIFT" "I", Cond.methodLink RX10 142 yX10_writeCondition, Cond.instanceMethod yX10_writeCondition, Cond.selects RX10 yX10_writeCondition yX10_writeCondition, Cond.code yX10_writeCondition cX10_writeCondition 5 none, Cond.fieldLink RX10 154 "GainTrees$Rules" "attribute" "[I", Cond.fieldLink RX10 155 "GainTrees$Rules" "sort" "[I", Cond.fieldLink RX10 160 "GainTrees$Rules" "bound" "[I", Cond.methodLink RX10 94 yX2_attributeSlot, Cond.static yX2_attributeSlot, Cond.initialized RX2, Cond.code yX2_attributeSlot cX2_attributeSlot 1 (some .int), Cond.methodLink RX10 81 yX10_nameIn, Cond.instanceMethod yX10_nameIn, Cond.selects RX10 yX10_nameIn yX10_nameIn, Cond.code yX10_nameIn cX10_nameIn 4 none, Cond.methodLink RX10 38 yX2_lengthOf, Cond.instanceMethod yX2_lengthOf, Cond.selects RX2 yX2_lengthOf yX2_lengthOf, Cond.code yX2_lengthOf cX2_lengthOf 2 (some .int)]
def wsX10_writeRules_r5 : List Cond := [Cond.fieldLink RX2 15 "GainTrees$Names" "lengths" "[I", Cond.methodLink RX10 44 yX2_letterOf, Cond.instanceMethod yX2_letterOf, Cond.selects RX2 yX2_letterOf yX2_letterOf, Cond.code yX2_letterOf cX2_letterOf 3 (some .int), Cond.fieldLink RX2 11 "GainTrees$Names" "letters" "[B", Cond.methodLink RX10 117 yX2_valueSlot, Cond.static yX2_valueSlot, Cond.code yX2_valueSlot cX2_valueSlot 2 (some .int), Cond.methodLink RX10 108 yX10_number, Cond.instanceMethod yX10_number, Cond.selects RX10 yX10_number yX10_number, Cond.code yX10_number cX10_number 5 none, Cond.methodLink RX10 48 Lib.Math.abs.name, Cond.static Lib.Math.abs.name, Cond.initialized "java/lang/Math", Cond.code Lib.Math.abs.name Lib.Math.abs.code 1 (some .int), Cond.methodLink RX10 53 yX10_whole, Cond.instanceMethod yX10_whole, Cond.selects RX10 yX10_whole yX10_whole, Cond.code yX10_whole cX10_whole 5 none, Cond.constant RX10 56 (1000000000), Cond.methodLink RX10 148 yX5_plain, Cond.instanceMethod yX5_plain]
def wsX10_writeRules_r6 : List Cond := [Cond.selects RX5 yX5_plain yX5_plain, Cond.initialized RX5, Cond.code yX5_plain cX5_plain 3 (some .int), Cond.fieldLink RX5 30 "GainTrees$Rules" "result" "[I", Cond.fieldLink RX5 24 "GainTrees$Rules" "size" "[I", Cond.fieldLink RX5 33 "GainTrees$Rules" "covered" "[I", Cond.fieldLink RX5 36 "GainTrees$Rules" "right" "[I"]
def wsX10_writeRules : List Cond := .code yX10_writeRules cX10_writeRules 6 none :: ((wsX10_writeRules_r1 ++ (wsX10_writeRules_r2 ++ (wsX10_writeRules_r3 ++ (wsX10_writeRules_r4 ++ (wsX10_writeRules_r5 ++ wsX10_writeRules_r6))))) ++ wsX100 ++ wsX50 ++ wsX00 ++ wsX20)
def wsX11_init_r1 : List Cond := [Cond.methodLink RX11 1 objectInit, Cond.instanceMethod objectInit, Cond.code objectInit ⟨#[0xb1]⟩ 1 none, Cond.classLink RX11 7 RX0, Cond.instantiable RX0 3, Cond.initialized RX0, Cond.fieldLink RX11 14 "GainTrees" "tape" "LGainTrees$Bytes;", Cond.fieldLink RX11 18 "GainTrees" "result" "LGainTrees$Bytes;", Cond.classLink RX11 21 RX4, Cond.instantiable RX4 10, Cond.initialized RX4, Cond.fieldLink RX11 26 "GainTrees" "reader" "LGainTrees$Reader;", Cond.classLink RX11 30 RX10, Cond.instantiable RX10 1, Cond.initialized RX10, Cond.fieldLink RX11 33 "GainTrees" "writer" "LGainTrees$Writer;", Cond.classLink RX11 37 RX8, Cond.instantiable RX8 3, Cond.initialized RX8, Cond.fieldLink RX11 40 "GainTrees" "training" "LGainTrees$Table;", Cond.fieldLink RX11 44 "GainTrees" "holdout" "LGainTrees$Table;", Cond.fieldLink RX11 47 "GainTrees" "single" "LGainTrees$Table;", Cond.classLink RX11 50 RX6, Cond.instantiable RX6 5]
def wsX11_init_r2 : List Cond := [Cond.initialized RX6, Cond.fieldLink RX11 53 "GainTrees" "scale" "LGainTrees$Scale;", Cond.classLink RX11 57 RX7, Cond.instantiable RX7 11, Cond.initialized RX7, Cond.fieldLink RX11 60 "GainTrees" "first" "LGainTrees$Split;", Cond.fieldLink RX11 64 "GainTrees" "second" "LGainTrees$Split;", Cond.classLink RX11 67 RX5, Cond.instantiable RX5 18, Cond.initialized RX5, Cond.fieldLink RX11 70 "GainTrees" "made" "LGainTrees$Rules;", Cond.classLink RX11 74 RX2, Cond.instantiable RX2 5, Cond.initialized RX2, Cond.fieldLink RX11 77 "GainTrees" "known" "LGainTrees$Names;", Cond.fieldLink RX11 81 "GainTrees" "spareNames" "LGainTrees$Names;", Cond.classLink RX11 84 RX9, Cond.instantiable RX9 14, Cond.initialized RX9, Cond.fieldLink RX11 87 "GainTrees" "grown" "LGainTrees$Tree;", Cond.fieldLink RX11 91 "GainTrees" "spareTree" "LGainTrees$Tree;", Cond.classLink RX11 94 RX1, Cond.instantiable RX1 19, Cond.initialized RX1]
def wsX11_init_r3 : List Cond := [Cond.fieldLink RX11 99 "GainTrees" "grower" "LGainTrees$Grower;", Cond.methodLink RX11 11 yX0_init, Cond.instanceMethod yX0_init, Cond.code yX0_init cX0_init 2 none, Cond.methodLink RX0 3 objectInit, Cond.methodLink RX0 9 Lib.Math.max.name, Cond.static Lib.Math.max.name, Cond.initialized "java/lang/Math", Cond.code Lib.Math.max.name Lib.Math.max.code 2 (some .int), Cond.arrayClass .byte, Cond.fieldLink RX0 15 "GainTrees$Bytes" "data" "[B", Cond.methodLink RX11 23 yX4_init, Cond.instanceMethod yX4_init, Cond.code yX4_init cX4_init 2 none, Cond.methodLink RX4 3 objectInit, Cond.fieldLink RX4 9 "GainTrees$Reader" "faultAt" "I", Cond.fieldLink RX4 15 "GainTrees$Reader" "tape" "LGainTrees$Bytes;", Cond.methodLink RX11 32 yX10_init, Cond.instanceMethod yX10_init, Cond.code yX10_init cX10_init 2 none, Cond.methodLink RX10 3 objectInit, Cond.fieldLink RX10 9 "GainTrees$Writer" "result" "LGainTrees$Bytes;", Cond.methodLink RX11 39 yX8_init, Cond.instanceMethod yX8_init]
def wsX11_init_r4 : List Cond := [Cond.code yX8_init cX8_init 2 none, Cond.methodLink RX8 3 objectInit, Cond.methodLink RX8 9 Lib.Math.max.name, Cond.fieldLink RX8 15 "GainTrees$Table" "most" "I", Cond.arrayClass .int, Cond.fieldLink RX8 21 "GainTrees$Table" "cells" "[I", Cond.methodLink RX11 52 yX6_init, Cond.instanceMethod yX6_init, Cond.code yX6_init cX6_init 2 none, Cond.methodLink RX6 3 objectInit, Cond.fieldLink RX6 9 "GainTrees$Scale" "logs" "[I", Cond.fieldLink RX6 15 "GainTrees$Scale" "factor" "[I", Cond.fieldLink RX6 18 "GainTrees$Scale" "power" "[I", Cond.classLink RX6 21 RX3, Cond.instantiable RX3 2, Cond.initialized RX3, Cond.fieldLink RX6 24 "GainTrees$Scale" "above" "LGainTrees$Product;", Cond.fieldLink RX6 28 "GainTrees$Scale" "below" "LGainTrees$Product;", Cond.instanceMethod yX3_init, Cond.code yX3_init cX3_init 1 none, Cond.methodLink RX3 3 objectInit, Cond.fieldLink RX3 9 "GainTrees$Product" "limbs" "[I", Cond.methodLink RX6 31 yX6_logOf, Cond.static yX6_logOf]
def wsX11_init_r5 : List Cond := [Cond.code yX6_logOf cX6_logOf 6 (some .int), Cond.constantLong RX6 38 (2147483648), Cond.methodLink RX6 35 yX6_factorOf, Cond.static yX6_factorOf, Cond.code yX6_factorOf cX6_factorOf 2 (some .int), Cond.instanceMethod yX7_init, Cond.code yX7_init cX7_init 1 none, Cond.methodLink RX7 3 objectInit, Cond.fieldLink RX7 9 "GainTrees$Split" "sizes" "[I", Cond.fieldLink RX7 15 "GainTrees$Split" "counts" "[I", Cond.instanceMethod yX5_init, Cond.code yX5_init cX5_init 1 none, Cond.methodLink RX5 3 objectInit, Cond.fieldLink RX5 11 "GainTrees$Rules" "attribute" "[I", Cond.fieldLink RX5 15 "GainTrees$Rules" "sort" "[I", Cond.fieldLink RX5 18 "GainTrees$Rules" "bound" "[I", Cond.fieldLink RX5 21 "GainTrees$Rules" "start" "[I", Cond.fieldLink RX5 24 "GainTrees$Rules" "size" "[I", Cond.fieldLink RX5 27 "GainTrees$Rules" "ranked" "[I", Cond.fieldLink RX5 30 "GainTrees$Rules" "result" "[I", Cond.fieldLink RX5 33 "GainTrees$Rules" "covered" "[I", Cond.fieldLink RX5 36 "GainTrees$Rules" "right" "[I", Cond.fieldLink RX5 39 "GainTrees$Rules" "misses" "[I", Cond.fieldLink RX5 42 "GainTrees$Rules" "missed" "[I"]
def wsX11_init_r6 : List Cond := [Cond.fieldLink RX5 45 "GainTrees$Rules" "coveredWithout" "[I", Cond.fieldLink RX5 48 "GainTrees$Rules" "rightWithout" "[I", Cond.arrayClass .boolean, Cond.fieldLink RX5 51 "GainTrees$Rules" "gone" "[Z", Cond.fieldLink RX5 55 "GainTrees$Rules" "arrived" "[I", Cond.instanceMethod yX2_init, Cond.code yX2_init cX2_init 1 none, Cond.methodLink RX2 5 objectInit, Cond.fieldLink RX2 11 "GainTrees$Names" "letters" "[B", Cond.fieldLink RX2 15 "GainTrees$Names" "lengths" "[I", Cond.fieldLink RX2 19 "GainTrees$Names" "values" "[I", Cond.instanceMethod yX9_init, Cond.code yX9_init cX9_init 1 none, Cond.methodLink RX9 3 objectInit, Cond.fieldLink RX9 9 "GainTrees$Tree" "attribute" "[I", Cond.fieldLink RX9 15 "GainTrees$Tree" "cut" "[I", Cond.fieldLink RX9 18 "GainTrees$Tree" "byCut" "[Z", Cond.fieldLink RX9 22 "GainTrees$Tree" "result" "[I", Cond.fieldLink RX9 25 "GainTrees$Tree" "amount" "[I", Cond.fieldLink RX9 28 "GainTrees$Tree" "kids" "[I", Cond.fieldLink RX9 31 "GainTrees$Tree" "depth" "[I", Cond.fieldLink RX9 34 "GainTrees$Tree" "parent" "[I", Cond.fieldLink RX9 37 "GainTrees$Tree" "place" "[I", Cond.fieldLink RX9 40 "GainTrees$Tree" "counts" "[I"]
def wsX11_init_r7 : List Cond := [Cond.fieldLink RX9 43 "GainTrees$Tree" "after" "[I", Cond.fieldLink RX9 46 "GainTrees$Tree" "wrongHere" "[I", Cond.fieldLink RX9 49 "GainTrees$Tree" "wrongBelow" "[I", Cond.methodLink RX11 96 yX1_init, Cond.instanceMethod yX1_init, Cond.code yX1_init cX1_init 6 none, Cond.methodLink RX1 3 objectInit, Cond.fieldLink RX1 9 "GainTrees$Grower" "rows" "[I", Cond.fieldLink RX1 15 "GainTrees$Grower" "parted" "[I", Cond.fieldLink RX1 18 "GainTrees$Grower" "sorted" "[I", Cond.fieldLink RX1 21 "GainTrees$Grower" "mark" "[I", Cond.fieldLink RX1 24 "GainTrees$Grower" "parents" "[I", Cond.fieldLink RX1 27 "GainTrees$Grower" "places" "[I", Cond.fieldLink RX1 30 "GainTrees$Grower" "starts" "[I", Cond.fieldLink RX1 33 "GainTrees$Grower" "stops" "[I", Cond.classLink RX1 36 RX7, Cond.fieldLink RX1 39 "GainTrees$Grower" "trial" "LGainTrees$Split;", Cond.fieldLink RX1 43 "GainTrees$Grower" "best" "[LGainTrees$Split;", Cond.fieldLink RX1 47 "GainTrees$Grower" "scale" "LGainTrees$Scale;", Cond.fieldLink RX1 51 "GainTrees$Grower" "table" "LGainTrees$Table;", Cond.fieldLink RX1 55 "GainTrees$Grower" "names" "LGainTrees$Names;", Cond.fieldLink RX1 59 "GainTrees$Grower" "tree" "LGainTrees$Tree;"]
def wsX11_init : List Cond := .code yX11_init cX11_init 1 none :: ((wsX11_init_r1 ++ (wsX11_init_r2 ++ (wsX11_init_r3 ++ (wsX11_init_r4 ++ (wsX11_init_r5 ++ (wsX11_init_r6 ++ wsX11_init_r7)))))) ++ wsX00 ++ wsX110 ++ wsX40 ++ wsX100 ++ wsX80 ++ wsX60 ++ wsX70 ++ wsX50 ++ wsX20 ++ wsX90 ++ wsX10 ++ wsX30)
def wsX11_feedFour : List Cond := .code yX11_feedFour cX11_feedFour 3 none :: ([.fieldLink RX11 14 "GainTrees" "tape" "LGainTrees$Bytes;", .methodLink RX11 110 yX0_add, .instanceMethod yX0_add, .selects RX0 yX0_add yX0_add, .initialized RX0, .code yX0_add cX0_add 2 none, .fieldLink RX0 21 "GainTrees$Bytes" "kept" "I", .fieldLink RX0 15 "GainTrees$Bytes" "data" "[B", .fieldLink RX0 25 "GainTrees$Bytes" "told" "I"] ++ wsX110 ++ wsX00)
def wsX11_feed : List Cond := .code yX11_feed cX11_feed 6 (some .int) :: ([.fieldLink RX11 14 "GainTrees" "tape" "LGainTrees$Bytes;", .fieldLink RX11 103 "GainTrees$Bytes" "kept" "I", .methodLink RX11 107 yX11_feedFour, .instanceMethod yX11_feedFour, .selects RX11 yX11_feedFour yX11_feedFour, .initialized RX11, .code yX11_feedFour cX11_feedFour 3 none, .methodLink RX11 110 yX0_add, .instanceMethod yX0_add, .selects RX0 yX0_add yX0_add, .initialized RX0, .code yX0_add cX0_add 2 none, .fieldLink RX0 21 "GainTrees$Bytes" "kept" "I", .fieldLink RX0 15 "GainTrees$Bytes" "data" "[B", .fieldLink RX0 25 "GainTrees$Bytes" "told" "I"] ++ wsX110 ++ wsX00)
def wsX11_end : List Cond := .code yX11_end cX11_end 2 (some .boolean) :: ([.fieldLink RX11 14 "GainTrees" "tape" "LGainTrees$Bytes;", .fieldLink RX11 103 "GainTrees$Bytes" "kept" "I", .methodLink RX11 113 yX0_shorten, .instanceMethod yX0_shorten, .selects RX0 yX0_shorten yX0_shorten, .initialized RX0, .code yX0_shorten cX0_shorten 2 none, .fieldLink RX0 21 "GainTrees$Bytes" "kept" "I", .fieldLink RX0 25 "GainTrees$Bytes" "told" "I"] ++ wsX110 ++ wsX00)
def wsX11_again : List Cond := .code yX11_again cX11_again 2 (some .int) :: ([.fieldLink RX11 14 "GainTrees" "tape" "LGainTrees$Bytes;", .fieldLink RX11 18 "GainTrees" "result" "LGainTrees$Bytes;", .fieldLink RX11 103 "GainTrees$Bytes" "kept" "I", .methodLink RX11 113 yX0_shorten, .instanceMethod yX0_shorten, .selects RX0 yX0_shorten yX0_shorten, .initialized RX0, .code yX0_shorten cX0_shorten 2 none, .fieldLink RX0 21 "GainTrees$Bytes" "kept" "I", .fieldLink RX0 25 "GainTrees$Bytes" "told" "I", .methodLink RX11 116 yX0_at, .instanceMethod yX0_at, .selects RX0 yX0_at yX0_at, .code yX0_at cX0_at 2 (some .int), .fieldLink RX0 15 "GainTrees$Bytes" "data" "[B", .methodLink RX11 110 yX0_add, .instanceMethod yX0_add, .selects RX0 yX0_add yX0_add, .code yX0_add cX0_add 2 none] ++ wsX110 ++ wsX00)
def wsX11_names_r1 : List Cond := [Cond.fieldLink RX11 26 "GainTrees" "reader" "LGainTrees$Reader;", Cond.fieldLink RX11 81 "GainTrees" "spareNames" "LGainTrees$Names;", Cond.fieldLink RX11 14 "GainTrees" "tape" "LGainTrees$Bytes;", Cond.fieldLink RX11 77 "GainTrees" "known" "LGainTrees$Names;", Cond.fieldLink RX11 40 "GainTrees" "training" "LGainTrees$Table;", Cond.fieldLink RX11 124 "GainTrees$Table" "size" "I", Cond.fieldLink RX11 44 "GainTrees" "holdout" "LGainTrees$Table;", Cond.fieldLink RX11 87 "GainTrees" "grown" "LGainTrees$Tree;", Cond.fieldLink RX11 70 "GainTrees" "made" "LGainTrees$Rules;", Cond.fieldLink RX11 133 "GainTrees$Names" "attributes" "I", Cond.methodLink RX11 120 yX4_readNames, Cond.instanceMethod yX4_readNames, Cond.selects RX4 yX4_readNames yX4_readNames, Cond.initialized RX4, Cond.code yX4_readNames cX4_readNames 3 (some .boolean), Cond.fieldLink RX4 113 "GainTrees$Names" "classes" "I", Cond.fieldLink RX4 44 "GainTrees$Reader" "kind" "I", Cond.methodLink RX4 98 yX4_begin, Cond.instanceMethod yX4_begin, Cond.selects RX4 yX4_begin yX4_begin, Cond.code yX4_begin cX4_begin 1 none, Cond.fieldLink RX4 19 "GainTrees$Reader" "fault" "I", Cond.fieldLink RX4 9 "GainTrees$Reader" "faultAt" "I", Cond.fieldLink RX4 22 "GainTrees$Reader" "to" "I"]
def wsX11_names_r2 : List Cond := [Cond.methodLink RX4 25 yX4_step, Cond.instanceMethod yX4_step, Cond.selects RX4 yX4_step yX4_step, Cond.code yX4_step cX4_step 2 none, Cond.fieldLink RX4 15 "GainTrees$Reader" "tape" "LGainTrees$Bytes;", Cond.fieldLink RX4 31 "GainTrees$Bytes" "kept" "I", Cond.fieldLink RX4 28 "GainTrees$Reader" "from" "I", Cond.methodLink RX4 36 yX0_at, Cond.instanceMethod yX0_at, Cond.selects RX0 yX0_at yX0_at, Cond.initialized RX0, Cond.code yX0_at cX0_at 2 (some .int), Cond.fieldLink RX0 21 "GainTrees$Bytes" "kept" "I", Cond.fieldLink RX0 15 "GainTrees$Bytes" "data" "[B", Cond.methodLink RX4 40 yX4_isBlank, Cond.static yX4_isBlank, Cond.code yX4_isBlank cX4_isBlank 1 (some .boolean), Cond.methodLink RX4 47 yX4_isLetter, Cond.static yX4_isLetter, Cond.code yX4_isLetter cX4_isLetter 1 (some .boolean), Cond.methodLink RX4 50 yX4_stepWord, Cond.instanceMethod yX4_stepWord, Cond.selects RX4 yX4_stepWord yX4_stepWord, Cond.code yX4_stepWord cX4_stepWord 1 none]
def wsX11_names_r3 : List Cond := [Cond.methodLink RX4 53 yX4_isDigit, Cond.static yX4_isDigit, Cond.code yX4_isDigit cX4_isDigit 1 (some .boolean), Cond.methodLink RX4 56 yX4_stepNumber, Cond.instanceMethod yX4_stepNumber, Cond.selects RX4 yX4_stepNumber yX4_stepNumber, Cond.code yX4_stepNumber cX4_stepNumber 5 none, Cond.fieldLink RX4 63 "GainTrees$Reader" "number" "J", Cond.constantLong RX4 67 (10), Cond.constantLong RX4 69 (1000), Cond.methodLink RX4 59 yX4_stepSign, Cond.instanceMethod yX4_stepSign, Cond.selects RX4 yX4_stepSign yX4_stepSign, Cond.code yX4_stepSign cX4_stepSign 4 none, Cond.methodLink RX4 101 yX2_wipe, Cond.instanceMethod yX2_wipe, Cond.selects RX2 yX2_wipe yX2_wipe, Cond.initialized RX2, Cond.code yX2_wipe cX2_wipe 1 none, Cond.fieldLink RX2 22 "GainTrees$Names" "classes" "I", Cond.fieldLink RX2 26 "GainTrees$Names" "attributes" "I", Cond.methodLink RX4 106 yX4_takeWord, Cond.instanceMethod yX4_takeWord, Cond.selects RX4 yX4_takeWord yX4_takeWord]
def wsX11_names_r4 : List Cond := [Cond.code yX4_takeWord cX4_takeWord 2 (some .boolean), Cond.methodLink RX4 83 yX4_isWord, Cond.instanceMethod yX4_isWord, Cond.selects RX4 yX4_isWord yX4_isWord, Cond.code yX4_isWord cX4_isWord 3 (some .boolean), Cond.methodLink RX4 71 yJ0_length_8abf5, Cond.instanceMethod yJ0_length_8abf5, Cond.selects RJ0 yJ0_length_8abf5 yJ0_length_8abf5, Cond.initialized RJ0, Cond.code yJ0_length_8abf5 cJ0_length_8abf5 1 (some .int), Cond.fieldLink RJ0 9 "java/lang/String" "value" "[B", Cond.methodLink RJ0 335 yJ0_coder_7d493, Cond.instanceMethod yJ0_coder_7d493, Cond.selects RJ0 yJ0_coder_7d493 yJ0_coder_7d493, Cond.code yJ0_coder_7d493 cJ0_coder_7d493 1 (some .byte), Cond.fieldLink RJ0 38 "java/lang/String" "COMPACT_STRINGS" "Z", Cond.fieldLink RJ0 15 "java/lang/String" "coder" "B", Cond.methodLink RX4 77 yJ0_charAt_5068e, Cond.instanceMethod yJ0_charAt_5068e, Cond.selects RJ0 yJ0_charAt_5068e yJ0_charAt_5068e, Cond.code yJ0_charAt_5068e cJ0_charAt_5068e 2 (some .char), Cond.methodLink RJ0 492 yJ0_isLatin1_aae02, Cond.instanceMethod yJ0_isLatin1_aae02, Cond.selects RJ0 yJ0_isLatin1_aae02 yJ0_isLatin1_aae02]
def wsX11_names_r5 : List Cond := [Cond.code yJ0_isLatin1_aae02 cJ0_isLatin1_aae02 1 (some .boolean), Cond.methodLink RJ0 495 yJ1_charAt_3b067, Cond.static yJ1_charAt_3b067, Cond.initialized RJ1, Cond.code yJ1_charAt_3b067 cJ1_charAt_3b067 2 (some .char), Cond.methodLink RJ1 9 yJ0_checkIndex_df160, Cond.static yJ0_checkIndex_df160, Cond.code yJ0_checkIndex_df160 cJ0_checkIndex_df160 2 none, Cond.fieldLink RJ0 1053 "jdk/internal/util/Preconditions" "SIOOBE_FORMATTER" "Ljava/util/function/BiFunction;", Cond.methodLink RJ0 1059 yJ3_checkIndex_8e157, Cond.static yJ3_checkIndex_8e157, Cond.initialized RJ3, Cond.code yJ3_checkIndex_8e157 cJ3_checkIndex_8e157 3 (some .int), Cond.methodLink RJ0 498 yJ2_charAt_3b067, Cond.static yJ2_charAt_3b067, Cond.initialized RJ2, Cond.code yJ2_charAt_3b067 cJ2_charAt_3b067 2 (some .char), Cond.methodLink RJ2 67 yJ2_checkIndex_2214a, Cond.static yJ2_checkIndex_2214a, Cond.code yJ2_checkIndex_2214a cJ2_checkIndex_2214a 2 none, Cond.methodLink RJ2 48 yJ2_length_9d52b, Cond.static yJ2_length_9d52b, Cond.code yJ2_length_9d52b cJ2_length_9d52b 1 (some .int), Cond.methodLink RJ2 414 yJ0_checkIndex_df160]
def wsX11_names_r6 : List Cond := [Cond.methodLink RJ2 71 yJ2_getChar_3b067, Cond.static yJ2_getChar_3b067, Cond.code yJ2_getChar_3b067 cJ2_getChar_3b067 2 (some .char), Cond.fieldLink RJ2 44 "java/lang/StringUTF16" "$assertionsDisabled" "Z", Cond.fieldLink RJ2 59 "java/lang/StringUTF16" "HI_BYTE_SHIFT" "I", Cond.fieldLink RJ2 63 "java/lang/StringUTF16" "LO_BYTE_SHIFT" "I", Cond.methodLink RX4 95 yX4_fail, Cond.instanceMethod yX4_fail, Cond.selects RX4 yX4_fail yX4_fail, Cond.code yX4_fail cX4_fail 2 (some .boolean), Cond.methodLink RX4 109 yX4_readList, Cond.instanceMethod yX4_readList, Cond.selects RX4 yX4_readList yX4_readList, Cond.code yX4_readList cX4_readList 5 (some .int), Cond.methodLink RX4 122 yX4_readName, Cond.instanceMethod yX4_readName, Cond.selects RX4 yX4_readName yX4_readName, Cond.code yX4_readName cX4_readName 5 (some .boolean), Cond.methodLink RX4 143 yX4_isReserved, Cond.instanceMethod yX4_isReserved, Cond.selects RX4 yX4_isReserved yX4_isReserved, Cond.code yX4_isReserved cX4_isReserved 1 (some .boolean), Cond.methodLink RX4 147 yX2_seek, Cond.instanceMethod yX2_seek]
def wsX11_names_r7 : List Cond := [Cond.selects RX2 yX2_seek yX2_seek, Cond.code yX2_seek cX2_seek 7 (some .int), Cond.methodLink RX2 35 yX2_holds, Cond.instanceMethod yX2_holds, Cond.selects RX2 yX2_holds yX2_holds, Cond.code yX2_holds cX2_holds 6 (some .boolean), Cond.methodLink RX2 39 yX2_lengthOf, Cond.instanceMethod yX2_lengthOf, Cond.selects RX2 yX2_lengthOf yX2_lengthOf, Cond.code yX2_lengthOf cX2_lengthOf 2 (some .int), Cond.fieldLink RX2 15 "GainTrees$Names" "lengths" "[I", Cond.methodLink RX2 42 yX2_letterOf, Cond.instanceMethod yX2_letterOf, Cond.selects RX2 yX2_letterOf yX2_letterOf, Cond.code yX2_letterOf cX2_letterOf 3 (some .int), Cond.fieldLink RX2 11 "GainTrees$Names" "letters" "[B", Cond.methodLink RX2 29 yX0_at, Cond.methodLink RX4 151 yX2_put, Cond.instanceMethod yX2_put, Cond.selects RX2 yX2_put yX2_put, Cond.code yX2_put cX2_put 7 none, Cond.methodLink RX4 129 yX4_takeSign, Cond.instanceMethod yX4_takeSign, Cond.selects RX4 yX4_takeSign yX4_takeSign]
def wsX11_names_r8 : List Cond := [Cond.code yX4_takeSign cX4_takeSign 2 (some .boolean), Cond.methodLink RX4 115 yX4_readAttribute, Cond.instanceMethod yX4_readAttribute, Cond.selects RX4 yX4_readAttribute yX4_readAttribute, Cond.code yX4_readAttribute cX4_readAttribute 3 (some .boolean), Cond.methodLink RX4 119 yX2_attributeSlot, Cond.static yX2_attributeSlot, Cond.code yX2_attributeSlot cX2_attributeSlot 1 (some .int), Cond.methodLink RX4 126 yX2_addAttribute, Cond.instanceMethod yX2_addAttribute, Cond.selects RX2 yX2_addAttribute yX2_addAttribute, Cond.code yX2_addAttribute cX2_addAttribute 1 none, Cond.fieldLink RX2 19 "GainTrees$Names" "values" "[I", Cond.methodLink RX4 132 yX2_valueSlot, Cond.static yX2_valueSlot, Cond.code yX2_valueSlot cX2_valueSlot 2 (some .int), Cond.methodLink RX4 136 yX2_setValues, Cond.instanceMethod yX2_setValues, Cond.selects RX2 yX2_setValues yX2_setValues, Cond.code yX2_setValues cX2_setValues 3 none, Cond.methodLink RX4 140 yX2_valuesOf, Cond.instanceMethod yX2_valuesOf, Cond.selects RX2 yX2_valuesOf yX2_valuesOf, Cond.code yX2_valuesOf cX2_valuesOf 2 (some .int)]
def wsX11_names_r9 : List Cond := [Cond.methodLink RX11 113 yX0_shorten, Cond.instanceMethod yX0_shorten, Cond.selects RX0 yX0_shorten yX0_shorten, Cond.code yX0_shorten cX0_shorten 2 none, Cond.fieldLink RX0 25 "GainTrees$Bytes" "told" "I", Cond.methodLink RX11 127 yX9_wipe, Cond.instanceMethod yX9_wipe, Cond.selects RX9 yX9_wipe yX9_wipe, Cond.initialized RX9, Cond.code yX9_wipe cX9_wipe 1 none, Cond.fieldLink RX9 52 "GainTrees$Tree" "nodes" "I", Cond.methodLink RX11 130 yX5_drop, Cond.instanceMethod yX5_drop, Cond.selects RX5 yX5_drop yX5_drop, Cond.initialized RX5, Cond.code yX5_drop cX5_drop 1 none, Cond.fieldLink RX5 58 "GainTrees$Rules" "many" "I", Cond.fieldLink RX5 62 "GainTrees$Rules" "stand" "Z", Cond.fieldLink RX5 66 "GainTrees$Rules" "otherwise" "I"]
def wsX11_names : List Cond := .code yX11_names cX11_names 3 (some .int) :: ((wsX11_names_r1 ++ (wsX11_names_r2 ++ (wsX11_names_r3 ++ (wsX11_names_r4 ++ (wsX11_names_r5 ++ (wsX11_names_r6 ++ (wsX11_names_r7 ++ (wsX11_names_r8 ++ wsX11_names_r9)))))))) ++ wsX110 ++ wsX80 ++ wsX20 ++ wsX40 ++ wsX00 ++ wsX90 ++ wsX50)
def wsX11_needSet : List Cond := .code yX11_needSet cX11_needSet 1 none :: ([.classLink RX11 266 "java/lang/IllegalArgumentException", .initialized "java/lang/IllegalArgumentException"] ++ (vx_atS RX11 270 "java/lang/IllegalArgumentException" ["java/lang/RuntimeException", "java/lang/Exception"]).filter goodWord)
def wsX11_needNames : List Cond := .code yX11_needNames cX11_needNames 1 none :: ([.classLink RX11 337 "java/lang/IllegalStateException", .initialized "java/lang/IllegalStateException", .fieldLink RX11 77 "GainTrees" "known" "LGainTrees$Names;", .fieldLink RX11 133 "GainTrees$Names" "attributes" "I"] ++ wsX110 ++ wsX20 ++ (vx_atS RX11 341 "java/lang/IllegalStateException" ["java/lang/RuntimeException", "java/lang/Exception"]).filter goodWord)
def wsX11_tableOf : List Cond := .code yX11_tableOf cX11_tableOf 2 (some (.object "GainTrees$Table")) :: ([.fieldLink RX11 40 "GainTrees" "training" "LGainTrees$Table;", .fieldLink RX11 44 "GainTrees" "holdout" "LGainTrees$Table;"] ++ wsX110)
def wsX11_rows_r1 : List Cond := [Cond.fieldLink RX11 26 "GainTrees" "reader" "LGainTrees$Reader;", Cond.fieldLink RX11 77 "GainTrees" "known" "LGainTrees$Names;", Cond.fieldLink RX11 14 "GainTrees" "tape" "LGainTrees$Bytes;", Cond.fieldLink RX11 124 "GainTrees$Table" "size" "I", Cond.methodLink RX11 136 yX11_needSet, Cond.static yX11_needSet, Cond.initialized RX11, Cond.code yX11_needSet cX11_needSet 1 none, Cond.classLink RX11 266 "java/lang/IllegalArgumentException", Cond.initialized "java/lang/IllegalArgumentException", Cond.methodLink RX11 139 yX11_needNames, Cond.instanceMethod yX11_needNames, Cond.selects RX11 yX11_needNames yX11_needNames, Cond.code yX11_needNames cX11_needNames 1 none, Cond.classLink RX11 337 "java/lang/IllegalStateException", Cond.initialized "java/lang/IllegalStateException", Cond.fieldLink RX11 133 "GainTrees$Names" "attributes" "I", Cond.methodLink RX11 142 yX11_tableOf, Cond.instanceMethod yX11_tableOf, Cond.selects RX11 yX11_tableOf yX11_tableOf, Cond.code yX11_tableOf cX11_tableOf 2 (some (.object "GainTrees$Table")), Cond.fieldLink RX11 40 "GainTrees" "training" "LGainTrees$Table;", Cond.fieldLink RX11 44 "GainTrees" "holdout" "LGainTrees$Table;", Cond.methodLink RX11 146 yX4_readRows]
def wsX11_rows_r2 : List Cond := [Cond.instanceMethod yX4_readRows, Cond.selects RX4 yX4_readRows yX4_readRows, Cond.initialized RX4, Cond.code yX4_readRows cX4_readRows 4 (some .boolean), Cond.fieldLink RX4 155 "GainTrees$Table" "size" "I", Cond.fieldLink RX4 160 "GainTrees$Table" "most" "I", Cond.fieldLink RX4 44 "GainTrees$Reader" "kind" "I", Cond.fieldLink RX4 171 "GainTrees$Reader" "value" "I", Cond.methodLink RX4 98 yX4_begin, Cond.instanceMethod yX4_begin, Cond.selects RX4 yX4_begin yX4_begin, Cond.code yX4_begin cX4_begin 1 none, Cond.fieldLink RX4 19 "GainTrees$Reader" "fault" "I", Cond.fieldLink RX4 9 "GainTrees$Reader" "faultAt" "I", Cond.fieldLink RX4 22 "GainTrees$Reader" "to" "I", Cond.methodLink RX4 25 yX4_step, Cond.instanceMethod yX4_step, Cond.selects RX4 yX4_step yX4_step, Cond.code yX4_step cX4_step 2 none, Cond.fieldLink RX4 15 "GainTrees$Reader" "tape" "LGainTrees$Bytes;", Cond.fieldLink RX4 31 "GainTrees$Bytes" "kept" "I", Cond.fieldLink RX4 28 "GainTrees$Reader" "from" "I", Cond.methodLink RX4 36 yX0_at, Cond.instanceMethod yX0_at]
def wsX11_rows_r3 : List Cond := [Cond.selects RX0 yX0_at yX0_at, Cond.initialized RX0, Cond.code yX0_at cX0_at 2 (some .int), Cond.fieldLink RX0 21 "GainTrees$Bytes" "kept" "I", Cond.fieldLink RX0 15 "GainTrees$Bytes" "data" "[B", Cond.methodLink RX4 40 yX4_isBlank, Cond.static yX4_isBlank, Cond.code yX4_isBlank cX4_isBlank 1 (some .boolean), Cond.methodLink RX4 47 yX4_isLetter, Cond.static yX4_isLetter, Cond.code yX4_isLetter cX4_isLetter 1 (some .boolean), Cond.methodLink RX4 50 yX4_stepWord, Cond.instanceMethod yX4_stepWord, Cond.selects RX4 yX4_stepWord yX4_stepWord, Cond.code yX4_stepWord cX4_stepWord 1 none, Cond.methodLink RX4 53 yX4_isDigit, Cond.static yX4_isDigit, Cond.code yX4_isDigit cX4_isDigit 1 (some .boolean), Cond.methodLink RX4 56 yX4_stepNumber, Cond.instanceMethod yX4_stepNumber, Cond.selects RX4 yX4_stepNumber yX4_stepNumber, Cond.code yX4_stepNumber cX4_stepNumber 5 none, Cond.fieldLink RX4 63 "GainTrees$Reader" "number" "J", Cond.constantLong RX4 67 (10)]
def wsX11_rows_r4 : List Cond := [Cond.constantLong RX4 69 (1000), Cond.methodLink RX4 59 yX4_stepSign, Cond.instanceMethod yX4_stepSign, Cond.selects RX4 yX4_stepSign yX4_stepSign, Cond.code yX4_stepSign cX4_stepSign 4 none, Cond.methodLink RX4 163 yX4_readCells, Cond.instanceMethod yX4_readCells, Cond.selects RX4 yX4_readCells yX4_readCells, Cond.code yX4_readCells cX4_readCells 5 (some .boolean), Cond.fieldLink RX4 177 "GainTrees$Names" "attributes" "I", Cond.methodLink RX4 180 yX4_readCell, Cond.instanceMethod yX4_readCell, Cond.selects RX4 yX4_readCell yX4_readCell, Cond.code yX4_readCell cX4_readCell 7 (some .boolean), Cond.methodLink RX4 140 yX2_valuesOf, Cond.instanceMethod yX2_valuesOf, Cond.selects RX2 yX2_valuesOf yX2_valuesOf, Cond.initialized RX2, Cond.code yX2_valuesOf cX2_valuesOf 2 (some .int), Cond.fieldLink RX2 26 "GainTrees$Names" "attributes" "I", Cond.fieldLink RX2 19 "GainTrees$Names" "values" "[I", Cond.methodLink RX4 132 yX2_valueSlot, Cond.static yX2_valueSlot, Cond.code yX2_valueSlot cX2_valueSlot 2 (some .int)]
def wsX11_rows_r5 : List Cond := [Cond.methodLink RX4 184 yX4_seekWord, Cond.instanceMethod yX4_seekWord, Cond.selects RX4 yX4_seekWord yX4_seekWord, Cond.code yX4_seekWord cX4_seekWord 4 (some .boolean), Cond.methodLink RX4 95 yX4_fail, Cond.instanceMethod yX4_fail, Cond.selects RX4 yX4_fail yX4_fail, Cond.code yX4_fail cX4_fail 2 (some .boolean), Cond.methodLink RX4 147 yX2_seek, Cond.instanceMethod yX2_seek, Cond.selects RX2 yX2_seek yX2_seek, Cond.code yX2_seek cX2_seek 7 (some .int), Cond.methodLink RX2 35 yX2_holds, Cond.instanceMethod yX2_holds, Cond.selects RX2 yX2_holds yX2_holds, Cond.code yX2_holds cX2_holds 6 (some .boolean), Cond.methodLink RX2 39 yX2_lengthOf, Cond.instanceMethod yX2_lengthOf, Cond.selects RX2 yX2_lengthOf yX2_lengthOf, Cond.code yX2_lengthOf cX2_lengthOf 2 (some .int), Cond.fieldLink RX2 15 "GainTrees$Names" "lengths" "[I", Cond.methodLink RX2 42 yX2_letterOf, Cond.instanceMethod yX2_letterOf, Cond.selects RX2 yX2_letterOf yX2_letterOf]
def wsX11_rows_r6 : List Cond := [Cond.code yX2_letterOf cX2_letterOf 3 (some .int), Cond.fieldLink RX2 11 "GainTrees$Names" "letters" "[B", Cond.methodLink RX2 29 yX0_at, Cond.methodLink RX4 188 yX4_checkNumber, Cond.instanceMethod yX4_checkNumber, Cond.selects RX4 yX4_checkNumber yX4_checkNumber, Cond.code yX4_checkNumber cX4_checkNumber 1 (some .boolean), Cond.constantLong RX4 191 (-1000000000), Cond.constantLong RX4 193 (1000000000), Cond.methodLink RX4 174 yX8_put, Cond.instanceMethod yX8_put, Cond.selects RX8 yX8_put yX8_put, Cond.initialized RX8, Cond.code yX8_put cX8_put 4 none, Cond.fieldLink RX8 15 "GainTrees$Table" "most" "I", Cond.fieldLink RX8 21 "GainTrees$Table" "cells" "[I", Cond.methodLink RX8 25 yX8_isColumn, Cond.static yX8_isColumn, Cond.code yX8_isColumn cX8_isColumn 1 (some .boolean), Cond.methodLink RX4 129 yX4_takeSign, Cond.instanceMethod yX4_takeSign, Cond.selects RX4 yX4_takeSign yX4_takeSign, Cond.code yX4_takeSign cX4_takeSign 2 (some .boolean), Cond.methodLink RX4 167 yX4_readClass]
def wsX11_rows_r7 : List Cond := [Cond.instanceMethod yX4_readClass, Cond.selects RX4 yX4_readClass yX4_readClass, Cond.code yX4_readClass cX4_readClass 2 (some .boolean), Cond.fieldLink RX4 113 "GainTrees$Names" "classes" "I", Cond.methodLink RX11 113 yX0_shorten, Cond.instanceMethod yX0_shorten, Cond.selects RX0 yX0_shorten yX0_shorten, Cond.code yX0_shorten cX0_shorten 2 none, Cond.fieldLink RX0 25 "GainTrees$Bytes" "told" "I"]
def wsX11_rows : List Cond := .code yX11_rows cX11_rows 4 (some .int) :: ((wsX11_rows_r1 ++ (wsX11_rows_r2 ++ (wsX11_rows_r3 ++ (wsX11_rows_r4 ++ (wsX11_rows_r5 ++ (wsX11_rows_r6 ++ wsX11_rows_r7)))))) ++ wsX110 ++ wsX80 ++ wsX20 ++ wsX40 ++ wsX00 ++ (vx_atS RX11 270 "java/lang/IllegalArgumentException" ["java/lang/RuntimeException", "java/lang/Exception"]).filter goodWord ++ (vx_atS RX11 341 "java/lang/IllegalStateException" ["java/lang/RuntimeException", "java/lang/Exception"]).filter goodWord)
def wsX11_clear : List Cond := .code yX11_clear cX11_clear 4 (some .int) :: ([.fieldLink RX11 124 "GainTrees$Table" "size" "I", .methodLink RX11 136 yX11_needSet, .static yX11_needSet, .initialized RX11, .code yX11_needSet cX11_needSet 1 none, .classLink RX11 266 "java/lang/IllegalArgumentException", .initialized "java/lang/IllegalArgumentException", .methodLink RX11 142 yX11_tableOf, .instanceMethod yX11_tableOf, .selects RX11 yX11_tableOf yX11_tableOf, .code yX11_tableOf cX11_tableOf 2 (some (.object "GainTrees$Table")), .fieldLink RX11 40 "GainTrees" "training" "LGainTrees$Table;", .fieldLink RX11 44 "GainTrees" "holdout" "LGainTrees$Table;"] ++ wsX80 ++ wsX110 ++ (vx_atS RX11 270 "java/lang/IllegalArgumentException" ["java/lang/RuntimeException", "java/lang/Exception"]).filter goodWord)
def wsX11_fault : List Cond := .code yX11_fault cX11_fault 2 (some .int) :: ([.fieldLink RX11 26 "GainTrees" "reader" "LGainTrees$Reader;", .fieldLink RX11 150 "GainTrees$Reader" "fault" "I", .fieldLink RX11 153 "GainTrees$Reader" "faultAt" "I"] ++ wsX110 ++ wsX40)
def wsX11_row_r1 : List Cond := [Cond.classLink RX11 156 "java/util/NoSuchElementException", Cond.initialized "java/util/NoSuchElementException", Cond.fieldLink RX11 124 "GainTrees$Table" "size" "I", Cond.fieldLink RX11 77 "GainTrees" "known" "LGainTrees$Names;", Cond.fieldLink RX11 133 "GainTrees$Names" "attributes" "I", Cond.methodLink RX11 136 yX11_needSet, Cond.static yX11_needSet, Cond.initialized RX11, Cond.code yX11_needSet cX11_needSet 1 none, Cond.classLink RX11 266 "java/lang/IllegalArgumentException", Cond.initialized "java/lang/IllegalArgumentException", Cond.methodLink RX11 142 yX11_tableOf, Cond.instanceMethod yX11_tableOf, Cond.selects RX11 yX11_tableOf yX11_tableOf, Cond.code yX11_tableOf cX11_tableOf 2 (some (.object "GainTrees$Table")), Cond.fieldLink RX11 40 "GainTrees" "training" "LGainTrees$Table;", Cond.fieldLink RX11 44 "GainTrees" "holdout" "LGainTrees$Table;", Cond.methodLink RX11 163 yX8_classOf, Cond.instanceMethod yX8_classOf, Cond.selects RX8 yX8_classOf yX8_classOf, Cond.initialized RX8, Cond.code yX8_classOf cX8_classOf 2 (some .int), Cond.methodLink RX8 29 yX8_cell, Cond.instanceMethod yX8_cell]
def wsX11_row_r2 : List Cond := [Cond.selects RX8 yX8_cell yX8_cell, Cond.code yX8_cell cX8_cell 3 (some .int), Cond.fieldLink RX8 15 "GainTrees$Table" "most" "I", Cond.fieldLink RX8 21 "GainTrees$Table" "cells" "[I", Cond.methodLink RX8 25 yX8_isColumn, Cond.static yX8_isColumn, Cond.code yX8_isColumn cX8_isColumn 1 (some .boolean), Cond.methodLink RX11 166 yX8_cell]
def wsX11_row : List Cond := .code yX11_row cX11_row 5 (some .int) :: ((wsX11_row_r1 ++ wsX11_row_r2) ++ wsX80 ++ wsX110 ++ wsX20 ++ (vx_atS RX11 160 "java/util/NoSuchElementException" ["java/lang/RuntimeException", "java/lang/Exception"]).filter goodWord ++ (vx_atS RX11 270 "java/lang/IllegalArgumentException" ["java/lang/RuntimeException", "java/lang/Exception"]).filter goodWord)
def wsX11_needManner : List Cond := .code yX11_needManner cX11_needManner 3 none :: ([.classLink RX11 266 "java/lang/IllegalArgumentException", .initialized "java/lang/IllegalArgumentException"] ++ (vx_atS RX11 270 "java/lang/IllegalArgumentException" ["java/lang/RuntimeException", "java/lang/Exception"]).filter goodWord)
def wsX11_needRows : List Cond := .code yX11_needRows cX11_needRows 2 none :: ([.classLink RX11 337 "java/lang/IllegalStateException", .initialized "java/lang/IllegalStateException", .fieldLink RX11 40 "GainTrees" "training" "LGainTrees$Table;", .fieldLink RX11 124 "GainTrees$Table" "size" "I"] ++ wsX110 ++ wsX80 ++ (vx_atS RX11 341 "java/lang/IllegalStateException" ["java/lang/RuntimeException", "java/lang/Exception"]).filter goodWord)
def wsX11_grow_r1 : List Cond := [Cond.fieldLink RX11 99 "GainTrees" "grower" "LGainTrees$Grower;", Cond.fieldLink RX11 77 "GainTrees" "known" "LGainTrees$Names;", Cond.fieldLink RX11 87 "GainTrees" "grown" "LGainTrees$Tree;", Cond.fieldLink RX11 70 "GainTrees" "made" "LGainTrees$Rules;", Cond.fieldLink RX11 188 "GainTrees$Tree" "nodes" "I", Cond.methodLink RX11 170 yX11_needManner, Cond.static yX11_needManner, Cond.initialized RX11, Cond.code yX11_needManner cX11_needManner 3 none, Cond.classLink RX11 266 "java/lang/IllegalArgumentException", Cond.initialized "java/lang/IllegalArgumentException", Cond.methodLink RX11 174 yX11_needRows, Cond.instanceMethod yX11_needRows, Cond.selects RX11 yX11_needRows yX11_needRows, Cond.code yX11_needRows cX11_needRows 2 none, Cond.classLink RX11 337 "java/lang/IllegalStateException", Cond.initialized "java/lang/IllegalStateException", Cond.fieldLink RX11 40 "GainTrees" "training" "LGainTrees$Table;", Cond.fieldLink RX11 124 "GainTrees$Table" "size" "I", Cond.methodLink RX11 177 yX1_aim, Cond.instanceMethod yX1_aim, Cond.selects RX1 yX1_aim yX1_aim, Cond.initialized RX1, Cond.code yX1_aim cX1_aim 4 none]
def wsX11_grow_r2 : List Cond := [Cond.fieldLink RX1 63 "GainTrees$Grower" "mode" "I", Cond.fieldLink RX1 67 "GainTrees$Grower" "least" "I", Cond.fieldLink RX1 70 "GainTrees$Grower" "depth" "I", Cond.methodLink RX11 180 yX1_gather, Cond.instanceMethod yX1_gather, Cond.selects RX1 yX1_gather yX1_gather, Cond.code yX1_gather cX1_gather 4 none, Cond.fieldLink RX1 73 "GainTrees$Grower" "used" "I", Cond.fieldLink RX1 51 "GainTrees$Grower" "table" "LGainTrees$Table;", Cond.fieldLink RX1 76 "GainTrees$Table" "size" "I", Cond.fieldLink RX1 21 "GainTrees$Grower" "mark" "[I", Cond.fieldLink RX1 9 "GainTrees$Grower" "rows" "[I", Cond.methodLink RX11 184 yX1_build, Cond.instanceMethod yX1_build, Cond.selects RX1 yX1_build yX1_build, Cond.code yX1_build cX1_build 8 none, Cond.fieldLink RX1 55 "GainTrees$Grower" "names" "LGainTrees$Names;", Cond.fieldLink RX1 59 "GainTrees$Grower" "tree" "LGainTrees$Tree;", Cond.fieldLink RX1 89 "GainTrees$Grower" "waiting" "I", Cond.fieldLink RX1 30 "GainTrees$Grower" "starts" "[I", Cond.fieldLink RX1 33 "GainTrees$Grower" "stops" "[I", Cond.fieldLink RX1 24 "GainTrees$Grower" "parents" "[I", Cond.fieldLink RX1 27 "GainTrees$Grower" "places" "[I", Cond.fieldLink RX1 115 "GainTrees$Split" "attribute" "I"]
def wsX11_grow_r3 : List Cond := [Cond.fieldLink RX1 118 "GainTrees$Split" "values" "I", Cond.fieldLink RX1 121 "GainTrees$Split" "cut" "I", Cond.methodLink RX1 81 yX9_wipe, Cond.instanceMethod yX9_wipe, Cond.selects RX9 yX9_wipe yX9_wipe, Cond.initialized RX9, Cond.code yX9_wipe cX9_wipe 1 none, Cond.fieldLink RX9 52 "GainTrees$Tree" "nodes" "I", Cond.methodLink RX1 86 yX1_sortRows, Cond.instanceMethod yX1_sortRows, Cond.selects RX1 yX1_sortRows yX1_sortRows, Cond.code yX1_sortRows cX1_sortRows 2 none, Cond.fieldLink RX1 134 "GainTrees$Names" "attributes" "I", Cond.methodLink RX1 139 yX2_valuesOf, Cond.instanceMethod yX2_valuesOf, Cond.selects RX2 yX2_valuesOf yX2_valuesOf, Cond.initialized RX2, Cond.code yX2_valuesOf cX2_valuesOf 2 (some .int), Cond.fieldLink RX2 26 "GainTrees$Names" "attributes" "I", Cond.fieldLink RX2 19 "GainTrees$Names" "values" "[I", Cond.methodLink RX1 143 yX1_sortBy, Cond.instanceMethod yX1_sortBy, Cond.selects RX1 yX1_sortBy yX1_sortBy, Cond.code yX1_sortBy cX1_sortBy 7 none]
def wsX11_grow_r4 : List Cond := [Cond.fieldLink RX1 18 "GainTrees$Grower" "sorted" "[I", Cond.methodLink RX1 147 yX8_cell, Cond.instanceMethod yX8_cell, Cond.selects RX8 yX8_cell yX8_cell, Cond.initialized RX8, Cond.code yX8_cell cX8_cell 3 (some .int), Cond.fieldLink RX8 15 "GainTrees$Table" "most" "I", Cond.fieldLink RX8 21 "GainTrees$Table" "cells" "[I", Cond.methodLink RX8 25 yX8_isColumn, Cond.static yX8_isColumn, Cond.code yX8_isColumn cX8_isColumn 1 (some .boolean), Cond.methodLink RX1 92 yX1_push, Cond.instanceMethod yX1_push, Cond.selects RX1 yX1_push yX1_push, Cond.code yX1_push cX1_push 5 none, Cond.methodLink RX1 96 yX9_add, Cond.instanceMethod yX9_add, Cond.selects RX9 yX9_add yX9_add, Cond.code yX9_add cX9_add 5 (some .int), Cond.fieldLink RX9 31 "GainTrees$Tree" "depth" "[I", Cond.fieldLink RX9 34 "GainTrees$Tree" "parent" "[I", Cond.fieldLink RX9 37 "GainTrees$Tree" "place" "[I", Cond.fieldLink RX9 22 "GainTrees$Tree" "result" "[I", Cond.fieldLink RX9 25 "GainTrees$Tree" "amount" "[I"]
def wsX11_grow_r5 : List Cond := [Cond.fieldLink RX9 40 "GainTrees$Tree" "counts" "[I", Cond.methodLink RX9 56 yX9_depthBelow, Cond.instanceMethod yX9_depthBelow, Cond.selects RX9 yX9_depthBelow yX9_depthBelow, Cond.code yX9_depthBelow cX9_depthBelow 2 (some .int), Cond.methodLink RX9 60 yX9_makeLeaf, Cond.instanceMethod yX9_makeLeaf, Cond.selects RX9 yX9_makeLeaf yX9_makeLeaf, Cond.code yX9_makeLeaf cX9_makeLeaf 2 none, Cond.fieldLink RX9 9 "GainTrees$Tree" "attribute" "[I", Cond.fieldLink RX9 15 "GainTrees$Tree" "cut" "[I", Cond.fieldLink RX9 18 "GainTrees$Tree" "byCut" "[Z", Cond.fieldLink RX9 28 "GainTrees$Tree" "kids" "[I", Cond.methodLink RX1 100 yX1_isLeaf, Cond.instanceMethod yX1_isLeaf, Cond.selects RX1 yX1_isLeaf yX1_isLeaf, Cond.code yX1_isLeaf cX1_isLeaf 5 (some .boolean), Cond.fieldLink RX1 160 "GainTrees$Tree" "result" "[I", Cond.fieldLink RX1 163 "GainTrees$Tree" "counts" "[I", Cond.fieldLink RX1 166 "GainTrees$Tree" "depth" "[I", Cond.methodLink RX1 150 yX8_classOf, Cond.instanceMethod yX8_classOf, Cond.selects RX8 yX8_classOf yX8_classOf, Cond.code yX8_classOf cX8_classOf 2 (some .int)]
def wsX11_grow_r6 : List Cond := [Cond.methodLink RX8 29 yX8_cell, Cond.methodLink RX1 153 yX9_note, Cond.instanceMethod yX9_note, Cond.selects RX9 yX9_note yX9_note, Cond.code yX9_note cX9_note 3 none, Cond.methodLink RX1 157 yX9_commonest, Cond.instanceMethod yX9_commonest, Cond.selects RX9 yX9_commonest yX9_commonest, Cond.code yX9_commonest cX9_commonest 4 (some .int), Cond.methodLink RX1 104 yX1_findSplits, Cond.instanceMethod yX1_findSplits, Cond.selects RX1 yX1_findSplits yX1_findSplits, Cond.code yX1_findSplits cX1_findSplits 6 none, Cond.fieldLink RX1 43 "GainTrees$Grower" "best" "[LGainTrees$Split;", Cond.fieldLink RX1 168 "GainTrees$Split" "stands" "Z", Cond.methodLink RX1 172 yX1_tryCuts, Cond.instanceMethod yX1_tryCuts, Cond.selects RX1 yX1_tryCuts yX1_tryCuts, Cond.code yX1_tryCuts cX1_tryCuts 10 none, Cond.fieldLink RX1 39 "GainTrees$Grower" "trial" "LGainTrees$Split;", Cond.fieldLink RX1 194 "GainTrees$Split" "sizes" "[I", Cond.methodLink RX1 180 yX7_open, Cond.instanceMethod yX7_open, Cond.selects RX7 yX7_open yX7_open]
def wsX11_grow_r7 : List Cond := [Cond.initialized RX7, Cond.code yX7_open cX7_open 5 none, Cond.fieldLink RX7 18 "GainTrees$Split" "attribute" "I", Cond.methodLink RX7 22 Lib.Math.max.name, Cond.static Lib.Math.max.name, Cond.initialized "java/lang/Math", Cond.code Lib.Math.max.name Lib.Math.max.code 2 (some .int), Cond.methodLink RX7 28 Lib.Math.min.name, Cond.static Lib.Math.min.name, Cond.code Lib.Math.min.name Lib.Math.min.code 2 (some .int), Cond.fieldLink RX7 31 "GainTrees$Split" "values" "I", Cond.fieldLink RX7 34 "GainTrees$Split" "cut" "I", Cond.fieldLink RX7 37 "GainTrees$Split" "children" "I", Cond.fieldLink RX7 40 "GainTrees$Split" "total" "I", Cond.fieldLink RX7 43 "GainTrees$Split" "stands" "Z", Cond.fieldLink RX7 9 "GainTrees$Split" "sizes" "[I", Cond.fieldLink RX7 15 "GainTrees$Split" "counts" "[I", Cond.methodLink RX1 187 yX7_take, Cond.instanceMethod yX7_take, Cond.selects RX7 yX7_take yX7_take, Cond.code yX7_take cX7_take 3 none, Cond.methodLink RX1 190 yX1_offer, Cond.instanceMethod yX1_offer, Cond.selects RX1 yX1_offer yX1_offer]
def wsX11_grow_r8 : List Cond := [Cond.code yX1_offer cX1_offer 2 none, Cond.fieldLink RX1 47 "GainTrees$Grower" "scale" "LGainTrees$Scale;", Cond.methodLink RX1 200 yX7_mayBe, Cond.instanceMethod yX7_mayBe, Cond.selects RX7 yX7_mayBe yX7_mayBe, Cond.code yX7_mayBe cX7_mayBe 4 (some .boolean), Cond.methodLink RX1 204 yX7_addSquares, Cond.instanceMethod yX7_addSquares, Cond.selects RX7 yX7_addSquares yX7_addSquares, Cond.code yX7_addSquares cX7_addSquares 7 none, Cond.fieldLink RX7 56 "GainTrees$Split" "squares" "J", Cond.fieldLink RX7 59 "GainTrees$Split" "divisor" "J", Cond.methodLink RX1 207 yX6_weigh, Cond.instanceMethod yX6_weigh, Cond.selects RX6 yX6_weigh yX6_weigh, Cond.initialized RX6, Cond.code yX6_weigh cX6_weigh 6 none, Cond.fieldLink RX6 40 "GainTrees$Split" "children" "I", Cond.fieldLink RX6 46 "GainTrees$Split" "sizes" "[I", Cond.fieldLink RX6 53 "GainTrees$Split" "counts" "[I", Cond.fieldLink RX6 56 "GainTrees$Split" "weight" "J", Cond.methodLink RX6 49 yX6_timesLog, Cond.instanceMethod yX6_timesLog, Cond.selects RX6 yX6_timesLog yX6_timesLog]
def wsX11_grow_r9 : List Cond := [Cond.code yX6_timesLog cX6_timesLog 2 (some .long), Cond.fieldLink RX6 9 "GainTrees$Scale" "logs" "[I", Cond.methodLink RX1 212 yX6_order, Cond.instanceMethod yX6_order, Cond.selects RX6 yX6_order yX6_order, Cond.code yX6_order cX6_order 6 (some .int), Cond.constantLong RX6 67 (2), Cond.fieldLink RX6 60 "GainTrees$Split" "total" "I", Cond.methodLink RX6 63 yX6_orderOfSquares, Cond.static yX6_orderOfSquares, Cond.code yX6_orderOfSquares cX6_orderOfSquares 19 (some .int), Cond.fieldLink RX6 97 "GainTrees$Split" "squares" "J", Cond.fieldLink RX6 100 "GainTrees$Split" "divisor" "J", Cond.methodLink RX6 91 yJ13_compare_74951, Cond.static yJ13_compare_74951, Cond.initialized RJ13, Cond.code yJ13_compare_74951 cJ13_compare_74951 4 (some .int), Cond.methodLink RX6 69 yX6_clearPowers, Cond.instanceMethod yX6_clearPowers, Cond.selects RX6 yX6_clearPowers yX6_clearPowers, Cond.code yX6_clearPowers cX6_clearPowers 2 none, Cond.fieldLink RX6 18 "GainTrees$Scale" "power" "[I", Cond.methodLink RX6 72 yX6_addPowers, Cond.instanceMethod yX6_addPowers]
def wsX11_grow_r10 : List Cond := [Cond.selects RX6 yX6_addPowers yX6_addPowers, Cond.code yX6_addPowers cX6_addPowers 5 none, Cond.methodLink RX6 103 yX6_addPower, Cond.instanceMethod yX6_addPower, Cond.selects RX6 yX6_addPower yX6_addPower, Cond.code yX6_addPower cX6_addPower 3 none, Cond.methodLink RX6 76 yX6_sign, Cond.instanceMethod yX6_sign, Cond.selects RX6 yX6_sign yX6_sign, Cond.code yX6_sign cX6_sign 7 (some .int), Cond.methodLink RX6 107 Lib.Math.abs.name, Cond.static Lib.Math.abs.name, Cond.code Lib.Math.abs.name Lib.Math.abs.code 1 (some .int), Cond.fieldLink RX6 24 "GainTrees$Scale" "above" "LGainTrees$Product;", Cond.fieldLink RX6 28 "GainTrees$Scale" "below" "LGainTrees$Product;", Cond.fieldLink RX6 15 "GainTrees$Scale" "factor" "[I", Cond.methodLink RX6 112 yX3_begin, Cond.instanceMethod yX3_begin, Cond.selects RX3 yX3_begin yX3_begin, Cond.initialized RX3, Cond.code yX3_begin cX3_begin 1 none, Cond.fieldLink RX3 9 "GainTrees$Product" "limbs" "[I", Cond.fieldLink RX3 13 "GainTrees$Product" "used" "I", Cond.methodLink RX6 115 yX3_raise]
def wsX11_grow_r11 : List Cond := [Cond.instanceMethod yX3_raise, Cond.selects RX3 yX3_raise yX3_raise, Cond.code yX3_raise cX3_raise 11 none, Cond.constantLong RX3 17 (4194304), Cond.constantLong RX3 19 (2147483647), Cond.methodLink RX6 118 yX3_order, Cond.instanceMethod yX3_order, Cond.selects RX3 yX3_order yX3_order, Cond.code yX3_order cX3_order 3 (some .int), Cond.methodLink RX1 216 yX7_copy, Cond.instanceMethod yX7_copy, Cond.selects RX7 yX7_copy yX7_copy, Cond.code yX7_copy cX7_copy 2 none, Cond.fieldLink RX7 52 "GainTrees$Split" "weight" "J", Cond.methodLink RX7 62 arraycopyName, Cond.native arraycopyName, Cond.static arraycopyName, Cond.initialized "java/lang/System", Cond.methodLink RX1 197 yX7_shift, Cond.instanceMethod yX7_shift, Cond.selects RX7 yX7_shift yX7_shift, Cond.code yX7_shift cX7_shift 2 none, Cond.methodLink RX1 176 yX1_tryValues, Cond.instanceMethod yX1_tryValues]
def wsX11_grow_r12 : List Cond := [Cond.selects RX1 yX1_tryValues yX1_tryValues, Cond.code yX1_tryValues cX1_tryValues 6 none, Cond.methodLink RX1 183 yX7_branch, Cond.instanceMethod yX7_branch, Cond.selects RX7 yX7_branch yX7_branch, Cond.code yX7_branch cX7_branch 4 (some .int), Cond.methodLink RX7 47 yX8_cell, Cond.methodLink RX1 108 yX1_chooseByRatio, Cond.instanceMethod yX1_chooseByRatio, Cond.selects RX1 yX1_chooseByRatio yX1_chooseByRatio, Cond.code yX1_chooseByRatio cX1_chooseByRatio 4 (some (.object "GainTrees$Split")), Cond.methodLink RX1 219 yX6_isUpToMean, Cond.instanceMethod yX6_isUpToMean, Cond.selects RX6 yX6_isUpToMean yX6_isUpToMean, Cond.code yX6_isUpToMean cX6_isUpToMean 6 (some .boolean), Cond.fieldLink RX6 80 "GainTrees$Split" "stands" "Z", Cond.methodLink RX1 223 yX6_orderOfRatios, Cond.instanceMethod yX6_orderOfRatios, Cond.selects RX6 yX6_orderOfRatios yX6_orderOfRatios, Cond.code yX6_orderOfRatios cX6_orderOfRatios 3 (some .int), Cond.methodLink RX6 84 yX6_gainOf, Cond.instanceMethod yX6_gainOf, Cond.selects RX6 yX6_gainOf yX6_gainOf, Cond.code yX6_gainOf cX6_gainOf 7 (some .long)]
def wsX11_grow_r13 : List Cond := [Cond.methodLink RX6 88 yX6_widthOf, Cond.instanceMethod yX6_widthOf, Cond.selects RX6 yX6_widthOf yX6_widthOf, Cond.code yX6_widthOf cX6_widthOf 5 (some .long), Cond.methodLink RX1 112 yX1_chooseBest, Cond.instanceMethod yX1_chooseBest, Cond.selects RX1 yX1_chooseBest yX1_chooseBest, Cond.code yX1_chooseBest cX1_chooseBest 4 (some (.object "GainTrees$Split")), Cond.methodLink RX1 124 yX9_fork, Cond.instanceMethod yX9_fork, Cond.selects RX9 yX9_fork yX9_fork, Cond.code yX9_fork cX9_fork 5 none, Cond.methodLink RX1 127 yX1_part, Cond.instanceMethod yX1_part, Cond.selects RX1 yX1_part yX1_part, Cond.code yX1_part cX1_part 8 none, Cond.fieldLink RX1 227 "GainTrees$Split" "children" "I", Cond.fieldLink RX1 15 "GainTrees$Grower" "parted" "[I", Cond.methodLink RX1 131 yX9_finish, Cond.instanceMethod yX9_finish, Cond.selects RX9 yX9_finish yX9_finish, Cond.code yX9_finish cX9_finish 4 none, Cond.fieldLink RX9 43 "GainTrees$Tree" "after" "[I", Cond.methodLink RX11 130 yX5_drop]
def wsX11_grow_r14 : List Cond := [Cond.instanceMethod yX5_drop, Cond.selects RX5 yX5_drop yX5_drop, Cond.initialized RX5, Cond.code yX5_drop cX5_drop 1 none, Cond.fieldLink RX5 58 "GainTrees$Rules" "many" "I", Cond.fieldLink RX5 62 "GainTrees$Rules" "stand" "Z", Cond.fieldLink RX5 66 "GainTrees$Rules" "otherwise" "I"]
def wsX11_grow : List Cond := .code yX11_grow cX11_grow 4 (some .int) :: ((wsX11_grow_r1 ++ (wsX11_grow_r2 ++ (wsX11_grow_r3 ++ (wsX11_grow_r4 ++ (wsX11_grow_r5 ++ (wsX11_grow_r6 ++ (wsX11_grow_r7 ++ (wsX11_grow_r8 ++ (wsX11_grow_r9 ++ (wsX11_grow_r10 ++ (wsX11_grow_r11 ++ (wsX11_grow_r12 ++ (wsX11_grow_r13 ++ wsX11_grow_r14))))))))))))) ++ wsX110 ++ wsX90 ++ wsX80 ++ wsX10 ++ wsX70 ++ wsX20 ++ wsX60 ++ wsX30 ++ wsX50 ++ (vx_atS RX11 270 "java/lang/IllegalArgumentException" ["java/lang/RuntimeException", "java/lang/Exception"]).filter goodWord ++ (vx_atS RX11 341 "java/lang/IllegalStateException" ["java/lang/RuntimeException", "java/lang/Exception"]).filter goodWord)
def wsX11_tree_r1 : List Cond := [Cond.fieldLink RX11 26 "GainTrees" "reader" "LGainTrees$Reader;", Cond.fieldLink RX11 77 "GainTrees" "known" "LGainTrees$Names;", Cond.fieldLink RX11 91 "GainTrees" "spareTree" "LGainTrees$Tree;", Cond.fieldLink RX11 14 "GainTrees" "tape" "LGainTrees$Bytes;", Cond.fieldLink RX11 70 "GainTrees" "made" "LGainTrees$Rules;", Cond.fieldLink RX11 87 "GainTrees" "grown" "LGainTrees$Tree;", Cond.fieldLink RX11 40 "GainTrees" "training" "LGainTrees$Table;", Cond.fieldLink RX11 188 "GainTrees$Tree" "nodes" "I", Cond.methodLink RX11 139 yX11_needNames, Cond.instanceMethod yX11_needNames, Cond.selects RX11 yX11_needNames yX11_needNames, Cond.initialized RX11, Cond.code yX11_needNames cX11_needNames 1 none, Cond.classLink RX11 337 "java/lang/IllegalStateException", Cond.initialized "java/lang/IllegalStateException", Cond.fieldLink RX11 133 "GainTrees$Names" "attributes" "I", Cond.methodLink RX11 191 yX4_readTree, Cond.instanceMethod yX4_readTree, Cond.selects RX4 yX4_readTree yX4_readTree, Cond.initialized RX4, Cond.code yX4_readTree cX4_readTree 4 (some .boolean), Cond.fieldLink RX4 198 "GainTrees$Reader" "under" "I", Cond.fieldLink RX4 201 "GainTrees$Reader" "child" "I", Cond.fieldLink RX4 44 "GainTrees$Reader" "kind" "I"]
def wsX11_tree_r2 : List Cond := [Cond.methodLink RX4 98 yX4_begin, Cond.instanceMethod yX4_begin, Cond.selects RX4 yX4_begin yX4_begin, Cond.code yX4_begin cX4_begin 1 none, Cond.fieldLink RX4 19 "GainTrees$Reader" "fault" "I", Cond.fieldLink RX4 9 "GainTrees$Reader" "faultAt" "I", Cond.fieldLink RX4 22 "GainTrees$Reader" "to" "I", Cond.methodLink RX4 25 yX4_step, Cond.instanceMethod yX4_step, Cond.selects RX4 yX4_step yX4_step, Cond.code yX4_step cX4_step 2 none, Cond.fieldLink RX4 15 "GainTrees$Reader" "tape" "LGainTrees$Bytes;", Cond.fieldLink RX4 31 "GainTrees$Bytes" "kept" "I", Cond.fieldLink RX4 28 "GainTrees$Reader" "from" "I", Cond.methodLink RX4 36 yX0_at, Cond.instanceMethod yX0_at, Cond.selects RX0 yX0_at yX0_at, Cond.initialized RX0, Cond.code yX0_at cX0_at 2 (some .int), Cond.fieldLink RX0 21 "GainTrees$Bytes" "kept" "I", Cond.fieldLink RX0 15 "GainTrees$Bytes" "data" "[B", Cond.methodLink RX4 40 yX4_isBlank, Cond.static yX4_isBlank, Cond.code yX4_isBlank cX4_isBlank 1 (some .boolean)]
def wsX11_tree_r3 : List Cond := [Cond.methodLink RX4 47 yX4_isLetter, Cond.static yX4_isLetter, Cond.code yX4_isLetter cX4_isLetter 1 (some .boolean), Cond.methodLink RX4 50 yX4_stepWord, Cond.instanceMethod yX4_stepWord, Cond.selects RX4 yX4_stepWord yX4_stepWord, Cond.code yX4_stepWord cX4_stepWord 1 none, Cond.methodLink RX4 53 yX4_isDigit, Cond.static yX4_isDigit, Cond.code yX4_isDigit cX4_isDigit 1 (some .boolean), Cond.methodLink RX4 56 yX4_stepNumber, Cond.instanceMethod yX4_stepNumber, Cond.selects RX4 yX4_stepNumber yX4_stepNumber, Cond.code yX4_stepNumber cX4_stepNumber 5 none, Cond.fieldLink RX4 63 "GainTrees$Reader" "number" "J", Cond.constantLong RX4 67 (10), Cond.constantLong RX4 69 (1000), Cond.methodLink RX4 59 yX4_stepSign, Cond.instanceMethod yX4_stepSign, Cond.selects RX4 yX4_stepSign yX4_stepSign, Cond.code yX4_stepSign cX4_stepSign 4 none, Cond.methodLink RX4 195 yX9_wipe, Cond.instanceMethod yX9_wipe, Cond.selects RX9 yX9_wipe yX9_wipe]
def wsX11_tree_r4 : List Cond := [Cond.initialized RX9, Cond.code yX9_wipe cX9_wipe 1 none, Cond.fieldLink RX9 52 "GainTrees$Tree" "nodes" "I", Cond.methodLink RX4 83 yX4_isWord, Cond.instanceMethod yX4_isWord, Cond.selects RX4 yX4_isWord yX4_isWord, Cond.code yX4_isWord cX4_isWord 3 (some .boolean), Cond.methodLink RX4 71 yJ0_length_8abf5, Cond.instanceMethod yJ0_length_8abf5, Cond.selects RJ0 yJ0_length_8abf5 yJ0_length_8abf5, Cond.initialized RJ0, Cond.code yJ0_length_8abf5 cJ0_length_8abf5 1 (some .int), Cond.fieldLink RJ0 9 "java/lang/String" "value" "[B", Cond.methodLink RJ0 335 yJ0_coder_7d493, Cond.instanceMethod yJ0_coder_7d493, Cond.selects RJ0 yJ0_coder_7d493 yJ0_coder_7d493, Cond.code yJ0_coder_7d493 cJ0_coder_7d493 1 (some .byte), Cond.fieldLink RJ0 38 "java/lang/String" "COMPACT_STRINGS" "Z", Cond.fieldLink RJ0 15 "java/lang/String" "coder" "B", Cond.methodLink RX4 77 yJ0_charAt_5068e, Cond.instanceMethod yJ0_charAt_5068e, Cond.selects RJ0 yJ0_charAt_5068e yJ0_charAt_5068e, Cond.code yJ0_charAt_5068e cJ0_charAt_5068e 2 (some .char), Cond.methodLink RJ0 492 yJ0_isLatin1_aae02]
def wsX11_tree_r5 : List Cond := [Cond.instanceMethod yJ0_isLatin1_aae02, Cond.selects RJ0 yJ0_isLatin1_aae02 yJ0_isLatin1_aae02, Cond.code yJ0_isLatin1_aae02 cJ0_isLatin1_aae02 1 (some .boolean), Cond.methodLink RJ0 495 yJ1_charAt_3b067, Cond.static yJ1_charAt_3b067, Cond.initialized RJ1, Cond.code yJ1_charAt_3b067 cJ1_charAt_3b067 2 (some .char), Cond.methodLink RJ1 9 yJ0_checkIndex_df160, Cond.static yJ0_checkIndex_df160, Cond.code yJ0_checkIndex_df160 cJ0_checkIndex_df160 2 none, Cond.fieldLink RJ0 1053 "jdk/internal/util/Preconditions" "SIOOBE_FORMATTER" "Ljava/util/function/BiFunction;", Cond.methodLink RJ0 1059 yJ3_checkIndex_8e157, Cond.static yJ3_checkIndex_8e157, Cond.initialized RJ3, Cond.code yJ3_checkIndex_8e157 cJ3_checkIndex_8e157 3 (some .int), Cond.methodLink RJ0 498 yJ2_charAt_3b067, Cond.static yJ2_charAt_3b067, Cond.initialized RJ2, Cond.code yJ2_charAt_3b067 cJ2_charAt_3b067 2 (some .char), Cond.methodLink RJ2 67 yJ2_checkIndex_2214a, Cond.static yJ2_checkIndex_2214a, Cond.code yJ2_checkIndex_2214a cJ2_checkIndex_2214a 2 none, Cond.methodLink RJ2 48 yJ2_length_9d52b, Cond.static yJ2_length_9d52b]
def wsX11_tree_r6 : List Cond := [Cond.code yJ2_length_9d52b cJ2_length_9d52b 1 (some .int), Cond.methodLink RJ2 414 yJ0_checkIndex_df160, Cond.methodLink RJ2 71 yJ2_getChar_3b067, Cond.static yJ2_getChar_3b067, Cond.code yJ2_getChar_3b067 cJ2_getChar_3b067 2 (some .char), Cond.fieldLink RJ2 44 "java/lang/StringUTF16" "$assertionsDisabled" "Z", Cond.fieldLink RJ2 59 "java/lang/StringUTF16" "HI_BYTE_SHIFT" "I", Cond.fieldLink RJ2 63 "java/lang/StringUTF16" "LO_BYTE_SHIFT" "I", Cond.methodLink RX4 204 yX4_readFork, Cond.instanceMethod yX4_readFork, Cond.selects RX4 yX4_readFork yX4_readFork, Cond.code yX4_readFork cX4_readFork 6 (some .boolean), Cond.fieldLink RX4 177 "GainTrees$Names" "attributes" "I", Cond.fieldLink RX4 171 "GainTrees$Reader" "value" "I", Cond.methodLink RX4 221 yX9_depthBelow, Cond.instanceMethod yX9_depthBelow, Cond.selects RX9 yX9_depthBelow yX9_depthBelow, Cond.code yX9_depthBelow cX9_depthBelow 2 (some .int), Cond.fieldLink RX9 31 "GainTrees$Tree" "depth" "[I", Cond.methodLink RX4 95 yX4_fail, Cond.instanceMethod yX4_fail, Cond.selects RX4 yX4_fail yX4_fail, Cond.code yX4_fail cX4_fail 2 (some .boolean), Cond.methodLink RX4 119 yX2_attributeSlot]
def wsX11_tree_r7 : List Cond := [Cond.static yX2_attributeSlot, Cond.initialized RX2, Cond.code yX2_attributeSlot cX2_attributeSlot 1 (some .int), Cond.methodLink RX4 184 yX4_seekWord, Cond.instanceMethod yX4_seekWord, Cond.selects RX4 yX4_seekWord yX4_seekWord, Cond.code yX4_seekWord cX4_seekWord 4 (some .boolean), Cond.methodLink RX4 147 yX2_seek, Cond.instanceMethod yX2_seek, Cond.selects RX2 yX2_seek yX2_seek, Cond.code yX2_seek cX2_seek 7 (some .int), Cond.methodLink RX2 35 yX2_holds, Cond.instanceMethod yX2_holds, Cond.selects RX2 yX2_holds yX2_holds, Cond.code yX2_holds cX2_holds 6 (some .boolean), Cond.methodLink RX2 39 yX2_lengthOf, Cond.instanceMethod yX2_lengthOf, Cond.selects RX2 yX2_lengthOf yX2_lengthOf, Cond.code yX2_lengthOf cX2_lengthOf 2 (some .int), Cond.fieldLink RX2 15 "GainTrees$Names" "lengths" "[I", Cond.methodLink RX2 42 yX2_letterOf, Cond.instanceMethod yX2_letterOf, Cond.selects RX2 yX2_letterOf yX2_letterOf, Cond.code yX2_letterOf cX2_letterOf 3 (some .int)]
def wsX11_tree_r8 : List Cond := [Cond.fieldLink RX2 11 "GainTrees$Names" "letters" "[B", Cond.methodLink RX2 29 yX0_at, Cond.methodLink RX4 140 yX2_valuesOf, Cond.instanceMethod yX2_valuesOf, Cond.selects RX2 yX2_valuesOf yX2_valuesOf, Cond.code yX2_valuesOf cX2_valuesOf 2 (some .int), Cond.fieldLink RX2 26 "GainTrees$Names" "attributes" "I", Cond.fieldLink RX2 19 "GainTrees$Names" "values" "[I", Cond.methodLink RX4 129 yX4_takeSign, Cond.instanceMethod yX4_takeSign, Cond.selects RX4 yX4_takeSign yX4_takeSign, Cond.code yX4_takeSign cX4_takeSign 2 (some .boolean), Cond.methodLink RX4 188 yX4_checkNumber, Cond.instanceMethod yX4_checkNumber, Cond.selects RX4 yX4_checkNumber yX4_checkNumber, Cond.code yX4_checkNumber cX4_checkNumber 1 (some .boolean), Cond.constantLong RX4 191 (-1000000000), Cond.constantLong RX4 193 (1000000000), Cond.methodLink RX4 214 yX9_add, Cond.instanceMethod yX9_add, Cond.selects RX9 yX9_add yX9_add, Cond.code yX9_add cX9_add 5 (some .int), Cond.fieldLink RX9 34 "GainTrees$Tree" "parent" "[I", Cond.fieldLink RX9 37 "GainTrees$Tree" "place" "[I"]
def wsX11_tree_r9 : List Cond := [Cond.fieldLink RX9 22 "GainTrees$Tree" "result" "[I", Cond.fieldLink RX9 25 "GainTrees$Tree" "amount" "[I", Cond.fieldLink RX9 40 "GainTrees$Tree" "counts" "[I", Cond.methodLink RX9 56 yX9_depthBelow, Cond.methodLink RX9 60 yX9_makeLeaf, Cond.instanceMethod yX9_makeLeaf, Cond.selects RX9 yX9_makeLeaf yX9_makeLeaf, Cond.code yX9_makeLeaf cX9_makeLeaf 2 none, Cond.fieldLink RX9 9 "GainTrees$Tree" "attribute" "[I", Cond.fieldLink RX9 15 "GainTrees$Tree" "cut" "[I", Cond.fieldLink RX9 18 "GainTrees$Tree" "byCut" "[Z", Cond.fieldLink RX9 28 "GainTrees$Tree" "kids" "[I", Cond.methodLink RX4 224 yX9_fork, Cond.instanceMethod yX9_fork, Cond.selects RX9 yX9_fork yX9_fork, Cond.code yX9_fork cX9_fork 5 none, Cond.methodLink RX4 228 yX4_readLabel, Cond.instanceMethod yX4_readLabel, Cond.selects RX4 yX4_readLabel yX4_readLabel, Cond.code yX4_readLabel cX4_readLabel 4 (some .boolean), Cond.methodLink RX4 132 yX2_valueSlot, Cond.static yX2_valueSlot, Cond.code yX2_valueSlot cX2_valueSlot 2 (some .int), Cond.methodLink RX4 208 yX4_readLeaf]
def wsX11_tree_r10 : List Cond := [Cond.instanceMethod yX4_readLeaf, Cond.selects RX4 yX4_readLeaf yX4_readLeaf, Cond.code yX4_readLeaf cX4_readLeaf 4 (some .boolean), Cond.fieldLink RX4 217 "GainTrees$Tree" "result" "[I", Cond.methodLink RX4 106 yX4_takeWord, Cond.instanceMethod yX4_takeWord, Cond.selects RX4 yX4_takeWord yX4_takeWord, Cond.code yX4_takeWord cX4_takeWord 2 (some .boolean), Cond.methodLink RX4 167 yX4_readClass, Cond.instanceMethod yX4_readClass, Cond.selects RX4 yX4_readClass yX4_readClass, Cond.code yX4_readClass cX4_readClass 2 (some .boolean), Cond.fieldLink RX4 113 "GainTrees$Names" "classes" "I", Cond.methodLink RX4 211 yX4_closeForks, Cond.instanceMethod yX4_closeForks, Cond.selects RX4 yX4_closeForks yX4_closeForks, Cond.code yX4_closeForks cX4_closeForks 7 (some .boolean), Cond.fieldLink RX4 231 "GainTrees$Tree" "nodes" "I", Cond.methodLink RX4 234 Lib.Math.max.name, Cond.static Lib.Math.max.name, Cond.initialized "java/lang/Math", Cond.code Lib.Math.max.name Lib.Math.max.code 2 (some .int), Cond.fieldLink RX4 239 "GainTrees$Tree" "parent" "[I", Cond.fieldLink RX4 242 "GainTrees$Tree" "place" "[I"]
def wsX11_tree_r11 : List Cond := [Cond.fieldLink RX4 245 "GainTrees$Tree" "attribute" "[I", Cond.fieldLink RX4 248 "GainTrees$Tree" "byCut" "[Z", Cond.fieldLink RX4 252 "GainTrees$Tree" "kids" "[I", Cond.methodLink RX11 113 yX0_shorten, Cond.instanceMethod yX0_shorten, Cond.selects RX0 yX0_shorten yX0_shorten, Cond.code yX0_shorten cX0_shorten 2 none, Cond.fieldLink RX0 25 "GainTrees$Bytes" "told" "I", Cond.methodLink RX11 130 yX5_drop, Cond.instanceMethod yX5_drop, Cond.selects RX5 yX5_drop yX5_drop, Cond.initialized RX5, Cond.code yX5_drop cX5_drop 1 none, Cond.fieldLink RX5 58 "GainTrees$Rules" "many" "I", Cond.fieldLink RX5 62 "GainTrees$Rules" "stand" "Z", Cond.fieldLink RX5 66 "GainTrees$Rules" "otherwise" "I", Cond.methodLink RX11 195 yX9_finish, Cond.instanceMethod yX9_finish, Cond.selects RX9 yX9_finish yX9_finish, Cond.code yX9_finish cX9_finish 4 none, Cond.fieldLink RX9 43 "GainTrees$Tree" "after" "[I", Cond.methodLink RX11 198 yX9_receive, Cond.instanceMethod yX9_receive, Cond.selects RX9 yX9_receive yX9_receive]
def wsX11_tree_r12 : List Cond := [Cond.code yX9_receive cX9_receive 5 none, Cond.fieldLink RX9 81 "GainTrees$Table" "size" "I", Cond.methodLink RX9 84 yX8_classOf, Cond.instanceMethod yX8_classOf, Cond.selects RX8 yX8_classOf yX8_classOf, Cond.initialized RX8, Cond.code yX8_classOf cX8_classOf 2 (some .int), Cond.methodLink RX8 29 yX8_cell, Cond.instanceMethod yX8_cell, Cond.selects RX8 yX8_cell yX8_cell, Cond.code yX8_cell cX8_cell 3 (some .int), Cond.fieldLink RX8 15 "GainTrees$Table" "most" "I", Cond.fieldLink RX8 21 "GainTrees$Table" "cells" "[I", Cond.methodLink RX8 25 yX8_isColumn, Cond.static yX8_isColumn, Cond.code yX8_isColumn cX8_isColumn 1 (some .boolean), Cond.methodLink RX9 87 yX9_note, Cond.instanceMethod yX9_note, Cond.selects RX9 yX9_note yX9_note, Cond.code yX9_note cX9_note 3 none, Cond.methodLink RX9 73 yX9_childFor, Cond.instanceMethod yX9_childFor, Cond.selects RX9 yX9_childFor yX9_childFor, Cond.code yX9_childFor cX9_childFor 5 (some .int)]
def wsX11_tree_r13 : List Cond := [Cond.methodLink RX9 64 yX8_cell, Cond.methodLink RX9 70 yX9_childOf, Cond.instanceMethod yX9_childOf, Cond.selects RX9 yX9_childOf yX9_childOf, Cond.code yX9_childOf cX9_childOf 5 (some .int), Cond.methodLink RX9 91 yX9_commonest, Cond.instanceMethod yX9_commonest, Cond.selects RX9 yX9_commonest yX9_commonest, Cond.code yX9_commonest cX9_commonest 4 (some .int)]
def wsX11_tree : List Cond := .code yX11_tree cX11_tree 3 (some .int) :: ((wsX11_tree_r1 ++ (wsX11_tree_r2 ++ (wsX11_tree_r3 ++ (wsX11_tree_r4 ++ (wsX11_tree_r5 ++ (wsX11_tree_r6 ++ (wsX11_tree_r7 ++ (wsX11_tree_r8 ++ (wsX11_tree_r9 ++ (wsX11_tree_r10 ++ (wsX11_tree_r11 ++ (wsX11_tree_r12 ++ wsX11_tree_r13)))))))))))) ++ wsX110 ++ wsX90 ++ wsX20 ++ wsX40 ++ wsX00 ++ wsX50 ++ wsX80 ++ (vx_atS RX11 341 "java/lang/IllegalStateException" ["java/lang/RuntimeException", "java/lang/Exception"]).filter goodWord)
def wsX11_needTree : List Cond := .code yX11_needTree cX11_needTree 1 none :: ([.classLink RX11 337 "java/lang/IllegalStateException", .initialized "java/lang/IllegalStateException", .fieldLink RX11 87 "GainTrees" "grown" "LGainTrees$Tree;", .fieldLink RX11 188 "GainTrees$Tree" "nodes" "I"] ++ wsX110 ++ wsX90 ++ (vx_atS RX11 341 "java/lang/IllegalStateException" ["java/lang/RuntimeException", "java/lang/Exception"]).filter goodWord)
def wsX11_prune_r1 : List Cond := [Cond.fieldLink RX11 70 "GainTrees" "made" "LGainTrees$Rules;", Cond.fieldLink RX11 87 "GainTrees" "grown" "LGainTrees$Tree;", Cond.fieldLink RX11 44 "GainTrees" "holdout" "LGainTrees$Table;", Cond.methodLink RX11 202 yX11_needTree, Cond.instanceMethod yX11_needTree, Cond.selects RX11 yX11_needTree yX11_needTree, Cond.initialized RX11, Cond.code yX11_needTree cX11_needTree 1 none, Cond.classLink RX11 337 "java/lang/IllegalStateException", Cond.initialized "java/lang/IllegalStateException", Cond.fieldLink RX11 188 "GainTrees$Tree" "nodes" "I", Cond.methodLink RX11 130 yX5_drop, Cond.instanceMethod yX5_drop, Cond.selects RX5 yX5_drop yX5_drop, Cond.initialized RX5, Cond.code yX5_drop cX5_drop 1 none, Cond.fieldLink RX5 58 "GainTrees$Rules" "many" "I", Cond.fieldLink RX5 62 "GainTrees$Rules" "stand" "Z", Cond.fieldLink RX5 66 "GainTrees$Rules" "otherwise" "I", Cond.methodLink RX11 205 yX9_trim, Cond.instanceMethod yX9_trim, Cond.selects RX9 yX9_trim yX9_trim, Cond.initialized RX9, Cond.code yX9_trim cX9_trim 6 (some .int)]
def wsX11_prune_r2 : List Cond := [Cond.fieldLink RX9 52 "GainTrees$Tree" "nodes" "I", Cond.fieldLink RX9 28 "GainTrees$Tree" "kids" "[I", Cond.fieldLink RX9 49 "GainTrees$Tree" "wrongBelow" "[I", Cond.fieldLink RX9 46 "GainTrees$Tree" "wrongHere" "[I", Cond.methodLink RX9 94 yX9_countWrong, Cond.instanceMethod yX9_countWrong, Cond.selects RX9 yX9_countWrong yX9_countWrong, Cond.code yX9_countWrong cX9_countWrong 5 none, Cond.fieldLink RX9 81 "GainTrees$Table" "size" "I", Cond.methodLink RX9 84 yX8_classOf, Cond.instanceMethod yX8_classOf, Cond.selects RX8 yX8_classOf yX8_classOf, Cond.initialized RX8, Cond.code yX8_classOf cX8_classOf 2 (some .int), Cond.methodLink RX8 29 yX8_cell, Cond.instanceMethod yX8_cell, Cond.selects RX8 yX8_cell yX8_cell, Cond.code yX8_cell cX8_cell 3 (some .int), Cond.fieldLink RX8 15 "GainTrees$Table" "most" "I", Cond.fieldLink RX8 21 "GainTrees$Table" "cells" "[I", Cond.methodLink RX8 25 yX8_isColumn, Cond.static yX8_isColumn, Cond.code yX8_isColumn cX8_isColumn 1 (some .boolean), Cond.methodLink RX9 104 yX9_countWrongAt]
def wsX11_prune_r3 : List Cond := [Cond.instanceMethod yX9_countWrongAt, Cond.selects RX9 yX9_countWrongAt yX9_countWrongAt, Cond.code yX9_countWrongAt cX9_countWrongAt 3 none, Cond.fieldLink RX9 22 "GainTrees$Tree" "result" "[I", Cond.methodLink RX9 73 yX9_childFor, Cond.instanceMethod yX9_childFor, Cond.selects RX9 yX9_childFor yX9_childFor, Cond.code yX9_childFor cX9_childFor 5 (some .int), Cond.fieldLink RX9 9 "GainTrees$Tree" "attribute" "[I", Cond.fieldLink RX9 18 "GainTrees$Tree" "byCut" "[Z", Cond.fieldLink RX9 15 "GainTrees$Tree" "cut" "[I", Cond.methodLink RX9 64 yX8_cell, Cond.methodLink RX9 70 yX9_childOf, Cond.instanceMethod yX9_childOf, Cond.selects RX9 yX9_childOf yX9_childOf, Cond.code yX9_childOf cX9_childOf 5 (some .int), Cond.fieldLink RX9 43 "GainTrees$Tree" "after" "[I", Cond.methodLink RX9 60 yX9_makeLeaf, Cond.instanceMethod yX9_makeLeaf, Cond.selects RX9 yX9_makeLeaf yX9_makeLeaf, Cond.code yX9_makeLeaf cX9_makeLeaf 2 none, Cond.methodLink RX9 98 yX9_closeUp, Cond.instanceMethod yX9_closeUp, Cond.selects RX9 yX9_closeUp yX9_closeUp]
def wsX11_prune_r4 : List Cond := [Cond.code yX9_closeUp cX9_closeUp 5 none, Cond.fieldLink RX9 34 "GainTrees$Tree" "parent" "[I", Cond.methodLink RX9 107 yX9_move, Cond.instanceMethod yX9_move, Cond.selects RX9 yX9_move yX9_move, Cond.code yX9_move cX9_move 4 none, Cond.fieldLink RX9 25 "GainTrees$Tree" "amount" "[I", Cond.fieldLink RX9 31 "GainTrees$Tree" "depth" "[I", Cond.fieldLink RX9 37 "GainTrees$Tree" "place" "[I", Cond.fieldLink RX9 40 "GainTrees$Tree" "counts" "[I", Cond.methodLink RX9 101 yX9_finish, Cond.instanceMethod yX9_finish, Cond.selects RX9 yX9_finish yX9_finish, Cond.code yX9_finish cX9_finish 4 none]
def wsX11_prune : List Cond := .code yX11_prune cX11_prune 1 (some .int) :: ((wsX11_prune_r1 ++ (wsX11_prune_r2 ++ (wsX11_prune_r3 ++ wsX11_prune_r4))) ++ wsX110 ++ wsX90 ++ wsX50 ++ wsX80 ++ (vx_atS RX11 341 "java/lang/IllegalStateException" ["java/lang/RuntimeException", "java/lang/Exception"]).filter goodWord)
def wsX11_needNode : List Cond := .code yX11_needNode cX11_needNode 2 none :: ([.classLink RX11 156 "java/util/NoSuchElementException", .initialized "java/util/NoSuchElementException", .fieldLink RX11 87 "GainTrees" "grown" "LGainTrees$Tree;", .fieldLink RX11 188 "GainTrees$Tree" "nodes" "I"] ++ wsX110 ++ wsX90 ++ (vx_atS RX11 160 "java/util/NoSuchElementException" ["java/lang/RuntimeException", "java/lang/Exception"]).filter goodWord)
def wsX11_node_r1 : List Cond := [Cond.classLink RX11 156 "java/util/NoSuchElementException", Cond.initialized "java/util/NoSuchElementException", Cond.fieldLink RX11 87 "GainTrees" "grown" "LGainTrees$Tree;", Cond.fieldLink RX11 212 "GainTrees$Tree" "kids" "[I", Cond.fieldLink RX11 77 "GainTrees" "known" "LGainTrees$Names;", Cond.fieldLink RX11 219 "GainTrees$Names" "classes" "I", Cond.fieldLink RX11 222 "GainTrees$Tree" "counts" "[I", Cond.methodLink RX11 202 yX11_needTree, Cond.instanceMethod yX11_needTree, Cond.selects RX11 yX11_needTree yX11_needTree, Cond.initialized RX11, Cond.code yX11_needTree cX11_needTree 1 none, Cond.classLink RX11 337 "java/lang/IllegalStateException", Cond.initialized "java/lang/IllegalStateException", Cond.fieldLink RX11 188 "GainTrees$Tree" "nodes" "I", Cond.methodLink RX11 209 yX11_needNode, Cond.instanceMethod yX11_needNode, Cond.selects RX11 yX11_needNode yX11_needNode, Cond.code yX11_needNode cX11_needNode 2 none, Cond.methodLink RX11 216 yX9_childOf, Cond.instanceMethod yX9_childOf, Cond.selects RX9 yX9_childOf yX9_childOf, Cond.initialized RX9, Cond.code yX9_childOf cX9_childOf 5 (some .int)]
def wsX11_node_r2 : List Cond := [Cond.fieldLink RX9 52 "GainTrees$Tree" "nodes" "I", Cond.fieldLink RX9 43 "GainTrees$Tree" "after" "[I", Cond.methodLink RX11 227 yX9_plain, Cond.instanceMethod yX9_plain, Cond.selects RX9 yX9_plain yX9_plain, Cond.code yX9_plain cX9_plain 3 (some .int), Cond.fieldLink RX9 9 "GainTrees$Tree" "attribute" "[I", Cond.fieldLink RX9 15 "GainTrees$Tree" "cut" "[I", Cond.fieldLink RX9 22 "GainTrees$Tree" "result" "[I", Cond.fieldLink RX9 25 "GainTrees$Tree" "amount" "[I", Cond.fieldLink RX9 28 "GainTrees$Tree" "kids" "[I", Cond.fieldLink RX9 31 "GainTrees$Tree" "depth" "[I"]
def wsX11_node : List Cond := .code yX11_node cX11_node 5 (some .int) :: ((wsX11_node_r1 ++ wsX11_node_r2) ++ wsX110 ++ wsX90 ++ wsX20 ++ (vx_atS RX11 160 "java/util/NoSuchElementException" ["java/lang/RuntimeException", "java/lang/Exception"]).filter goodWord ++ (vx_atS RX11 341 "java/lang/IllegalStateException" ["java/lang/RuntimeException", "java/lang/Exception"]).filter goodWord)
def wsX11_needNodeWithRows_r1 : List Cond := [Cond.classLink RX11 337 "java/lang/IllegalStateException", Cond.initialized "java/lang/IllegalStateException", Cond.fieldLink RX11 40 "GainTrees" "training" "LGainTrees$Table;", Cond.fieldLink RX11 124 "GainTrees$Table" "size" "I", Cond.fieldLink RX11 87 "GainTrees" "grown" "LGainTrees$Tree;", Cond.methodLink RX11 202 yX11_needTree, Cond.instanceMethod yX11_needTree, Cond.selects RX11 yX11_needTree yX11_needTree, Cond.initialized RX11, Cond.code yX11_needTree cX11_needTree 1 none, Cond.fieldLink RX11 188 "GainTrees$Tree" "nodes" "I", Cond.methodLink RX11 209 yX11_needNode, Cond.instanceMethod yX11_needNode, Cond.selects RX11 yX11_needNode yX11_needNode, Cond.code yX11_needNode cX11_needNode 2 none, Cond.classLink RX11 156 "java/util/NoSuchElementException", Cond.initialized "java/util/NoSuchElementException", Cond.methodLink RX11 350 yX9_comesTo, Cond.instanceMethod yX9_comesTo, Cond.selects RX9 yX9_comesTo yX9_comesTo, Cond.initialized RX9, Cond.code yX9_comesTo cX9_comesTo 6 (some .boolean), Cond.fieldLink RX9 28 "GainTrees$Tree" "kids" "[I", Cond.methodLink RX9 73 yX9_childFor]
def wsX11_needNodeWithRows_r2 : List Cond := [Cond.instanceMethod yX9_childFor, Cond.selects RX9 yX9_childFor yX9_childFor, Cond.code yX9_childFor cX9_childFor 5 (some .int), Cond.fieldLink RX9 9 "GainTrees$Tree" "attribute" "[I", Cond.fieldLink RX9 18 "GainTrees$Tree" "byCut" "[Z", Cond.fieldLink RX9 15 "GainTrees$Tree" "cut" "[I", Cond.methodLink RX9 64 yX8_cell, Cond.instanceMethod yX8_cell, Cond.selects RX8 yX8_cell yX8_cell, Cond.initialized RX8, Cond.code yX8_cell cX8_cell 3 (some .int), Cond.fieldLink RX8 15 "GainTrees$Table" "most" "I", Cond.fieldLink RX8 21 "GainTrees$Table" "cells" "[I", Cond.methodLink RX8 25 yX8_isColumn, Cond.static yX8_isColumn, Cond.code yX8_isColumn cX8_isColumn 1 (some .boolean), Cond.methodLink RX9 70 yX9_childOf, Cond.instanceMethod yX9_childOf, Cond.selects RX9 yX9_childOf yX9_childOf, Cond.code yX9_childOf cX9_childOf 5 (some .int), Cond.fieldLink RX9 52 "GainTrees$Tree" "nodes" "I", Cond.fieldLink RX9 43 "GainTrees$Tree" "after" "[I"]
def wsX11_needNodeWithRows : List Cond := .code yX11_needNodeWithRows cX11_needNodeWithRows 3 none :: ((wsX11_needNodeWithRows_r1 ++ wsX11_needNodeWithRows_r2) ++ wsX110 ++ wsX80 ++ wsX90 ++ (vx_atS RX11 341 "java/lang/IllegalStateException" ["java/lang/RuntimeException", "java/lang/Exception"]).filter goodWord ++ (vx_atS RX11 160 "java/util/NoSuchElementException" ["java/lang/RuntimeException", "java/lang/Exception"]).filter goodWord)
def wsX11_needAttribute : List Cond := .code yX11_needAttribute cX11_needAttribute 2 none :: ([.classLink RX11 156 "java/util/NoSuchElementException", .initialized "java/util/NoSuchElementException", .fieldLink RX11 77 "GainTrees" "known" "LGainTrees$Names;", .fieldLink RX11 133 "GainTrees$Names" "attributes" "I"] ++ wsX110 ++ wsX20 ++ (vx_atS RX11 160 "java/util/NoSuchElementException" ["java/lang/RuntimeException", "java/lang/Exception"]).filter goodWord)
def wsX11_fillSplit_r1 : List Cond := [Cond.fieldLink RX11 77 "GainTrees" "known" "LGainTrees$Names;", Cond.fieldLink RX11 40 "GainTrees" "training" "LGainTrees$Table;", Cond.fieldLink RX11 124 "GainTrees$Table" "size" "I", Cond.fieldLink RX11 87 "GainTrees" "grown" "LGainTrees$Tree;", Cond.fieldLink RX11 53 "GainTrees" "scale" "LGainTrees$Scale;", Cond.methodLink RX11 328 yX2_valuesOf, Cond.instanceMethod yX2_valuesOf, Cond.selects RX2 yX2_valuesOf yX2_valuesOf, Cond.initialized RX2, Cond.code yX2_valuesOf cX2_valuesOf 2 (some .int), Cond.fieldLink RX2 26 "GainTrees$Names" "attributes" "I", Cond.fieldLink RX2 19 "GainTrees$Names" "values" "[I", Cond.methodLink RX11 359 yX7_open, Cond.instanceMethod yX7_open, Cond.selects RX7 yX7_open yX7_open, Cond.initialized RX7, Cond.code yX7_open cX7_open 5 none, Cond.fieldLink RX7 18 "GainTrees$Split" "attribute" "I", Cond.methodLink RX7 22 Lib.Math.max.name, Cond.static Lib.Math.max.name, Cond.initialized "java/lang/Math", Cond.code Lib.Math.max.name Lib.Math.max.code 2 (some .int), Cond.methodLink RX7 28 Lib.Math.min.name, Cond.static Lib.Math.min.name]
def wsX11_fillSplit_r2 : List Cond := [Cond.code Lib.Math.min.name Lib.Math.min.code 2 (some .int), Cond.fieldLink RX7 31 "GainTrees$Split" "values" "I", Cond.fieldLink RX7 34 "GainTrees$Split" "cut" "I", Cond.fieldLink RX7 37 "GainTrees$Split" "children" "I", Cond.fieldLink RX7 40 "GainTrees$Split" "total" "I", Cond.fieldLink RX7 43 "GainTrees$Split" "stands" "Z", Cond.fieldLink RX7 9 "GainTrees$Split" "sizes" "[I", Cond.fieldLink RX7 15 "GainTrees$Split" "counts" "[I", Cond.methodLink RX11 350 yX9_comesTo, Cond.instanceMethod yX9_comesTo, Cond.selects RX9 yX9_comesTo yX9_comesTo, Cond.initialized RX9, Cond.code yX9_comesTo cX9_comesTo 6 (some .boolean), Cond.fieldLink RX9 28 "GainTrees$Tree" "kids" "[I", Cond.methodLink RX9 73 yX9_childFor, Cond.instanceMethod yX9_childFor, Cond.selects RX9 yX9_childFor yX9_childFor, Cond.code yX9_childFor cX9_childFor 5 (some .int), Cond.fieldLink RX9 9 "GainTrees$Tree" "attribute" "[I", Cond.fieldLink RX9 18 "GainTrees$Tree" "byCut" "[Z", Cond.fieldLink RX9 15 "GainTrees$Tree" "cut" "[I", Cond.methodLink RX9 64 yX8_cell, Cond.instanceMethod yX8_cell, Cond.selects RX8 yX8_cell yX8_cell]
def wsX11_fillSplit_r3 : List Cond := [Cond.initialized RX8, Cond.code yX8_cell cX8_cell 3 (some .int), Cond.fieldLink RX8 15 "GainTrees$Table" "most" "I", Cond.fieldLink RX8 21 "GainTrees$Table" "cells" "[I", Cond.methodLink RX8 25 yX8_isColumn, Cond.static yX8_isColumn, Cond.code yX8_isColumn cX8_isColumn 1 (some .boolean), Cond.methodLink RX9 70 yX9_childOf, Cond.instanceMethod yX9_childOf, Cond.selects RX9 yX9_childOf yX9_childOf, Cond.code yX9_childOf cX9_childOf 5 (some .int), Cond.fieldLink RX9 52 "GainTrees$Tree" "nodes" "I", Cond.fieldLink RX9 43 "GainTrees$Tree" "after" "[I", Cond.methodLink RX11 362 yX7_branch, Cond.instanceMethod yX7_branch, Cond.selects RX7 yX7_branch yX7_branch, Cond.code yX7_branch cX7_branch 4 (some .int), Cond.methodLink RX7 47 yX8_cell, Cond.methodLink RX11 163 yX8_classOf, Cond.instanceMethod yX8_classOf, Cond.selects RX8 yX8_classOf yX8_classOf, Cond.code yX8_classOf cX8_classOf 2 (some .int), Cond.methodLink RX8 29 yX8_cell, Cond.methodLink RX11 365 yX7_take]
def wsX11_fillSplit_r4 : List Cond := [Cond.instanceMethod yX7_take, Cond.selects RX7 yX7_take yX7_take, Cond.code yX7_take cX7_take 3 none, Cond.methodLink RX11 368 yX6_weigh, Cond.instanceMethod yX6_weigh, Cond.selects RX6 yX6_weigh yX6_weigh, Cond.initialized RX6, Cond.code yX6_weigh cX6_weigh 6 none, Cond.fieldLink RX6 40 "GainTrees$Split" "children" "I", Cond.fieldLink RX6 46 "GainTrees$Split" "sizes" "[I", Cond.fieldLink RX6 53 "GainTrees$Split" "counts" "[I", Cond.fieldLink RX6 56 "GainTrees$Split" "weight" "J", Cond.methodLink RX6 49 yX6_timesLog, Cond.instanceMethod yX6_timesLog, Cond.selects RX6 yX6_timesLog yX6_timesLog, Cond.code yX6_timesLog cX6_timesLog 2 (some .long), Cond.fieldLink RX6 9 "GainTrees$Scale" "logs" "[I"]
def wsX11_fillSplit : List Cond := .code yX11_fillSplit cX11_fillSplit 6 none :: ((wsX11_fillSplit_r1 ++ (wsX11_fillSplit_r2 ++ (wsX11_fillSplit_r3 ++ wsX11_fillSplit_r4))) ++ wsX110 ++ wsX80 ++ wsX20 ++ wsX70 ++ wsX90 ++ wsX60)
def wsX11_compare_r1 : List Cond := [Cond.fieldLink RX11 60 "GainTrees" "first" "LGainTrees$Split;", Cond.fieldLink RX11 64 "GainTrees" "second" "LGainTrees$Split;", Cond.fieldLink RX11 53 "GainTrees" "scale" "LGainTrees$Scale;", Cond.methodLink RX11 230 yX11_needNodeWithRows, Cond.instanceMethod yX11_needNodeWithRows, Cond.selects RX11 yX11_needNodeWithRows yX11_needNodeWithRows, Cond.initialized RX11, Cond.code yX11_needNodeWithRows cX11_needNodeWithRows 3 none, Cond.classLink RX11 337 "java/lang/IllegalStateException", Cond.initialized "java/lang/IllegalStateException", Cond.fieldLink RX11 40 "GainTrees" "training" "LGainTrees$Table;", Cond.fieldLink RX11 124 "GainTrees$Table" "size" "I", Cond.fieldLink RX11 87 "GainTrees" "grown" "LGainTrees$Tree;", Cond.methodLink RX11 202 yX11_needTree, Cond.instanceMethod yX11_needTree, Cond.selects RX11 yX11_needTree yX11_needTree, Cond.code yX11_needTree cX11_needTree 1 none, Cond.fieldLink RX11 188 "GainTrees$Tree" "nodes" "I", Cond.methodLink RX11 209 yX11_needNode, Cond.instanceMethod yX11_needNode, Cond.selects RX11 yX11_needNode yX11_needNode, Cond.code yX11_needNode cX11_needNode 2 none, Cond.classLink RX11 156 "java/util/NoSuchElementException", Cond.initialized "java/util/NoSuchElementException"]
def wsX11_compare_r2 : List Cond := [Cond.methodLink RX11 350 yX9_comesTo, Cond.instanceMethod yX9_comesTo, Cond.selects RX9 yX9_comesTo yX9_comesTo, Cond.initialized RX9, Cond.code yX9_comesTo cX9_comesTo 6 (some .boolean), Cond.fieldLink RX9 28 "GainTrees$Tree" "kids" "[I", Cond.methodLink RX9 73 yX9_childFor, Cond.instanceMethod yX9_childFor, Cond.selects RX9 yX9_childFor yX9_childFor, Cond.code yX9_childFor cX9_childFor 5 (some .int), Cond.fieldLink RX9 9 "GainTrees$Tree" "attribute" "[I", Cond.fieldLink RX9 18 "GainTrees$Tree" "byCut" "[Z", Cond.fieldLink RX9 15 "GainTrees$Tree" "cut" "[I", Cond.methodLink RX9 64 yX8_cell, Cond.instanceMethod yX8_cell, Cond.selects RX8 yX8_cell yX8_cell, Cond.initialized RX8, Cond.code yX8_cell cX8_cell 3 (some .int), Cond.fieldLink RX8 15 "GainTrees$Table" "most" "I", Cond.fieldLink RX8 21 "GainTrees$Table" "cells" "[I", Cond.methodLink RX8 25 yX8_isColumn, Cond.static yX8_isColumn, Cond.code yX8_isColumn cX8_isColumn 1 (some .boolean), Cond.methodLink RX9 70 yX9_childOf]
def wsX11_compare_r3 : List Cond := [Cond.instanceMethod yX9_childOf, Cond.selects RX9 yX9_childOf yX9_childOf, Cond.code yX9_childOf cX9_childOf 5 (some .int), Cond.fieldLink RX9 52 "GainTrees$Tree" "nodes" "I", Cond.fieldLink RX9 43 "GainTrees$Tree" "after" "[I", Cond.methodLink RX11 233 yX11_needAttribute, Cond.instanceMethod yX11_needAttribute, Cond.selects RX11 yX11_needAttribute yX11_needAttribute, Cond.code yX11_needAttribute cX11_needAttribute 2 none, Cond.fieldLink RX11 77 "GainTrees" "known" "LGainTrees$Names;", Cond.fieldLink RX11 133 "GainTrees$Names" "attributes" "I", Cond.methodLink RX11 236 yX11_fillSplit, Cond.instanceMethod yX11_fillSplit, Cond.selects RX11 yX11_fillSplit yX11_fillSplit, Cond.code yX11_fillSplit cX11_fillSplit 6 none, Cond.methodLink RX11 328 yX2_valuesOf, Cond.instanceMethod yX2_valuesOf, Cond.selects RX2 yX2_valuesOf yX2_valuesOf, Cond.initialized RX2, Cond.code yX2_valuesOf cX2_valuesOf 2 (some .int), Cond.fieldLink RX2 26 "GainTrees$Names" "attributes" "I", Cond.fieldLink RX2 19 "GainTrees$Names" "values" "[I", Cond.methodLink RX11 359 yX7_open, Cond.instanceMethod yX7_open]
def wsX11_compare_r4 : List Cond := [Cond.selects RX7 yX7_open yX7_open, Cond.initialized RX7, Cond.code yX7_open cX7_open 5 none, Cond.fieldLink RX7 18 "GainTrees$Split" "attribute" "I", Cond.methodLink RX7 22 Lib.Math.max.name, Cond.static Lib.Math.max.name, Cond.initialized "java/lang/Math", Cond.code Lib.Math.max.name Lib.Math.max.code 2 (some .int), Cond.methodLink RX7 28 Lib.Math.min.name, Cond.static Lib.Math.min.name, Cond.code Lib.Math.min.name Lib.Math.min.code 2 (some .int), Cond.fieldLink RX7 31 "GainTrees$Split" "values" "I", Cond.fieldLink RX7 34 "GainTrees$Split" "cut" "I", Cond.fieldLink RX7 37 "GainTrees$Split" "children" "I", Cond.fieldLink RX7 40 "GainTrees$Split" "total" "I", Cond.fieldLink RX7 43 "GainTrees$Split" "stands" "Z", Cond.fieldLink RX7 9 "GainTrees$Split" "sizes" "[I", Cond.fieldLink RX7 15 "GainTrees$Split" "counts" "[I", Cond.methodLink RX11 362 yX7_branch, Cond.instanceMethod yX7_branch, Cond.selects RX7 yX7_branch yX7_branch, Cond.code yX7_branch cX7_branch 4 (some .int), Cond.methodLink RX7 47 yX8_cell, Cond.methodLink RX11 163 yX8_classOf]
def wsX11_compare_r5 : List Cond := [Cond.instanceMethod yX8_classOf, Cond.selects RX8 yX8_classOf yX8_classOf, Cond.code yX8_classOf cX8_classOf 2 (some .int), Cond.methodLink RX8 29 yX8_cell, Cond.methodLink RX11 365 yX7_take, Cond.instanceMethod yX7_take, Cond.selects RX7 yX7_take yX7_take, Cond.code yX7_take cX7_take 3 none, Cond.methodLink RX11 368 yX6_weigh, Cond.instanceMethod yX6_weigh, Cond.selects RX6 yX6_weigh yX6_weigh, Cond.initialized RX6, Cond.code yX6_weigh cX6_weigh 6 none, Cond.fieldLink RX6 40 "GainTrees$Split" "children" "I", Cond.fieldLink RX6 46 "GainTrees$Split" "sizes" "[I", Cond.fieldLink RX6 53 "GainTrees$Split" "counts" "[I", Cond.fieldLink RX6 56 "GainTrees$Split" "weight" "J", Cond.methodLink RX6 49 yX6_timesLog, Cond.instanceMethod yX6_timesLog, Cond.selects RX6 yX6_timesLog yX6_timesLog, Cond.code yX6_timesLog cX6_timesLog 2 (some .long), Cond.fieldLink RX6 9 "GainTrees$Scale" "logs" "[I", Cond.methodLink RX11 240 yX6_order, Cond.instanceMethod yX6_order]
def wsX11_compare_r6 : List Cond := [Cond.selects RX6 yX6_order yX6_order, Cond.code yX6_order cX6_order 6 (some .int), Cond.constantLong RX6 67 (2), Cond.fieldLink RX6 60 "GainTrees$Split" "total" "I", Cond.methodLink RX6 63 yX6_orderOfSquares, Cond.static yX6_orderOfSquares, Cond.code yX6_orderOfSquares cX6_orderOfSquares 19 (some .int), Cond.fieldLink RX6 97 "GainTrees$Split" "squares" "J", Cond.fieldLink RX6 100 "GainTrees$Split" "divisor" "J", Cond.methodLink RX6 91 yJ13_compare_74951, Cond.static yJ13_compare_74951, Cond.initialized RJ13, Cond.code yJ13_compare_74951 cJ13_compare_74951 4 (some .int), Cond.methodLink RX6 69 yX6_clearPowers, Cond.instanceMethod yX6_clearPowers, Cond.selects RX6 yX6_clearPowers yX6_clearPowers, Cond.code yX6_clearPowers cX6_clearPowers 2 none, Cond.fieldLink RX6 18 "GainTrees$Scale" "power" "[I", Cond.methodLink RX6 72 yX6_addPowers, Cond.instanceMethod yX6_addPowers, Cond.selects RX6 yX6_addPowers yX6_addPowers, Cond.code yX6_addPowers cX6_addPowers 5 none, Cond.methodLink RX6 103 yX6_addPower, Cond.instanceMethod yX6_addPower]
def wsX11_compare_r7 : List Cond := [Cond.selects RX6 yX6_addPower yX6_addPower, Cond.code yX6_addPower cX6_addPower 3 none, Cond.methodLink RX6 76 yX6_sign, Cond.instanceMethod yX6_sign, Cond.selects RX6 yX6_sign yX6_sign, Cond.code yX6_sign cX6_sign 7 (some .int), Cond.methodLink RX6 107 Lib.Math.abs.name, Cond.static Lib.Math.abs.name, Cond.code Lib.Math.abs.name Lib.Math.abs.code 1 (some .int), Cond.fieldLink RX6 24 "GainTrees$Scale" "above" "LGainTrees$Product;", Cond.fieldLink RX6 28 "GainTrees$Scale" "below" "LGainTrees$Product;", Cond.fieldLink RX6 15 "GainTrees$Scale" "factor" "[I", Cond.methodLink RX6 112 yX3_begin, Cond.instanceMethod yX3_begin, Cond.selects RX3 yX3_begin yX3_begin, Cond.initialized RX3, Cond.code yX3_begin cX3_begin 1 none, Cond.fieldLink RX3 9 "GainTrees$Product" "limbs" "[I", Cond.fieldLink RX3 13 "GainTrees$Product" "used" "I", Cond.methodLink RX6 115 yX3_raise, Cond.instanceMethod yX3_raise, Cond.selects RX3 yX3_raise yX3_raise, Cond.code yX3_raise cX3_raise 11 none, Cond.constantLong RX3 17 (4194304)]
def wsX11_compare_r8 : List Cond := [Cond.constantLong RX3 19 (2147483647), Cond.methodLink RX6 118 yX3_order, Cond.instanceMethod yX3_order, Cond.selects RX3 yX3_order yX3_order, Cond.code yX3_order cX3_order 3 (some .int)]
def wsX11_compare : List Cond := .code yX11_compare cX11_compare 6 (some .int) :: ((wsX11_compare_r1 ++ (wsX11_compare_r2 ++ (wsX11_compare_r3 ++ (wsX11_compare_r4 ++ (wsX11_compare_r5 ++ (wsX11_compare_r6 ++ (wsX11_compare_r7 ++ wsX11_compare_r8))))))) ++ wsX110 ++ wsX80 ++ wsX90 ++ wsX20 ++ wsX70 ++ wsX60 ++ wsX30 ++ (vx_atS RX11 341 "java/lang/IllegalStateException" ["java/lang/RuntimeException", "java/lang/Exception"]).filter goodWord ++ (vx_atS RX11 160 "java/util/NoSuchElementException" ["java/lang/RuntimeException", "java/lang/Exception"]).filter goodWord)
def wsX11_gain_r1 : List Cond := [Cond.classLink RX11 156 "java/util/NoSuchElementException", Cond.initialized "java/util/NoSuchElementException", Cond.fieldLink RX11 60 "GainTrees" "first" "LGainTrees$Split;", Cond.fieldLink RX11 53 "GainTrees" "scale" "LGainTrees$Scale;", Cond.methodLink RX11 230 yX11_needNodeWithRows, Cond.instanceMethod yX11_needNodeWithRows, Cond.selects RX11 yX11_needNodeWithRows yX11_needNodeWithRows, Cond.initialized RX11, Cond.code yX11_needNodeWithRows cX11_needNodeWithRows 3 none, Cond.classLink RX11 337 "java/lang/IllegalStateException", Cond.initialized "java/lang/IllegalStateException", Cond.fieldLink RX11 40 "GainTrees" "training" "LGainTrees$Table;", Cond.fieldLink RX11 124 "GainTrees$Table" "size" "I", Cond.fieldLink RX11 87 "GainTrees" "grown" "LGainTrees$Tree;", Cond.methodLink RX11 202 yX11_needTree, Cond.instanceMethod yX11_needTree, Cond.selects RX11 yX11_needTree yX11_needTree, Cond.code yX11_needTree cX11_needTree 1 none, Cond.fieldLink RX11 188 "GainTrees$Tree" "nodes" "I", Cond.methodLink RX11 209 yX11_needNode, Cond.instanceMethod yX11_needNode, Cond.selects RX11 yX11_needNode yX11_needNode, Cond.code yX11_needNode cX11_needNode 2 none, Cond.methodLink RX11 350 yX9_comesTo]
def wsX11_gain_r2 : List Cond := [Cond.instanceMethod yX9_comesTo, Cond.selects RX9 yX9_comesTo yX9_comesTo, Cond.initialized RX9, Cond.code yX9_comesTo cX9_comesTo 6 (some .boolean), Cond.fieldLink RX9 28 "GainTrees$Tree" "kids" "[I", Cond.methodLink RX9 73 yX9_childFor, Cond.instanceMethod yX9_childFor, Cond.selects RX9 yX9_childFor yX9_childFor, Cond.code yX9_childFor cX9_childFor 5 (some .int), Cond.fieldLink RX9 9 "GainTrees$Tree" "attribute" "[I", Cond.fieldLink RX9 18 "GainTrees$Tree" "byCut" "[Z", Cond.fieldLink RX9 15 "GainTrees$Tree" "cut" "[I", Cond.methodLink RX9 64 yX8_cell, Cond.instanceMethod yX8_cell, Cond.selects RX8 yX8_cell yX8_cell, Cond.initialized RX8, Cond.code yX8_cell cX8_cell 3 (some .int), Cond.fieldLink RX8 15 "GainTrees$Table" "most" "I", Cond.fieldLink RX8 21 "GainTrees$Table" "cells" "[I", Cond.methodLink RX8 25 yX8_isColumn, Cond.static yX8_isColumn, Cond.code yX8_isColumn cX8_isColumn 1 (some .boolean), Cond.methodLink RX9 70 yX9_childOf, Cond.instanceMethod yX9_childOf]
def wsX11_gain_r3 : List Cond := [Cond.selects RX9 yX9_childOf yX9_childOf, Cond.code yX9_childOf cX9_childOf 5 (some .int), Cond.fieldLink RX9 52 "GainTrees$Tree" "nodes" "I", Cond.fieldLink RX9 43 "GainTrees$Tree" "after" "[I", Cond.methodLink RX11 233 yX11_needAttribute, Cond.instanceMethod yX11_needAttribute, Cond.selects RX11 yX11_needAttribute yX11_needAttribute, Cond.code yX11_needAttribute cX11_needAttribute 2 none, Cond.fieldLink RX11 77 "GainTrees" "known" "LGainTrees$Names;", Cond.fieldLink RX11 133 "GainTrees$Names" "attributes" "I", Cond.methodLink RX11 236 yX11_fillSplit, Cond.instanceMethod yX11_fillSplit, Cond.selects RX11 yX11_fillSplit yX11_fillSplit, Cond.code yX11_fillSplit cX11_fillSplit 6 none, Cond.methodLink RX11 328 yX2_valuesOf, Cond.instanceMethod yX2_valuesOf, Cond.selects RX2 yX2_valuesOf yX2_valuesOf, Cond.initialized RX2, Cond.code yX2_valuesOf cX2_valuesOf 2 (some .int), Cond.fieldLink RX2 26 "GainTrees$Names" "attributes" "I", Cond.fieldLink RX2 19 "GainTrees$Names" "values" "[I", Cond.methodLink RX11 359 yX7_open, Cond.instanceMethod yX7_open, Cond.selects RX7 yX7_open yX7_open]
def wsX11_gain_r4 : List Cond := [Cond.initialized RX7, Cond.code yX7_open cX7_open 5 none, Cond.fieldLink RX7 18 "GainTrees$Split" "attribute" "I", Cond.methodLink RX7 22 Lib.Math.max.name, Cond.static Lib.Math.max.name, Cond.initialized "java/lang/Math", Cond.code Lib.Math.max.name Lib.Math.max.code 2 (some .int), Cond.methodLink RX7 28 Lib.Math.min.name, Cond.static Lib.Math.min.name, Cond.code Lib.Math.min.name Lib.Math.min.code 2 (some .int), Cond.fieldLink RX7 31 "GainTrees$Split" "values" "I", Cond.fieldLink RX7 34 "GainTrees$Split" "cut" "I", Cond.fieldLink RX7 37 "GainTrees$Split" "children" "I", Cond.fieldLink RX7 40 "GainTrees$Split" "total" "I", Cond.fieldLink RX7 43 "GainTrees$Split" "stands" "Z", Cond.fieldLink RX7 9 "GainTrees$Split" "sizes" "[I", Cond.fieldLink RX7 15 "GainTrees$Split" "counts" "[I", Cond.methodLink RX11 362 yX7_branch, Cond.instanceMethod yX7_branch, Cond.selects RX7 yX7_branch yX7_branch, Cond.code yX7_branch cX7_branch 4 (some .int), Cond.methodLink RX7 47 yX8_cell, Cond.methodLink RX11 163 yX8_classOf, Cond.instanceMethod yX8_classOf]
def wsX11_gain_r5 : List Cond := [Cond.selects RX8 yX8_classOf yX8_classOf, Cond.code yX8_classOf cX8_classOf 2 (some .int), Cond.methodLink RX8 29 yX8_cell, Cond.methodLink RX11 365 yX7_take, Cond.instanceMethod yX7_take, Cond.selects RX7 yX7_take yX7_take, Cond.code yX7_take cX7_take 3 none, Cond.methodLink RX11 368 yX6_weigh, Cond.instanceMethod yX6_weigh, Cond.selects RX6 yX6_weigh yX6_weigh, Cond.initialized RX6, Cond.code yX6_weigh cX6_weigh 6 none, Cond.fieldLink RX6 40 "GainTrees$Split" "children" "I", Cond.fieldLink RX6 46 "GainTrees$Split" "sizes" "[I", Cond.fieldLink RX6 53 "GainTrees$Split" "counts" "[I", Cond.fieldLink RX6 56 "GainTrees$Split" "weight" "J", Cond.methodLink RX6 49 yX6_timesLog, Cond.instanceMethod yX6_timesLog, Cond.selects RX6 yX6_timesLog yX6_timesLog, Cond.code yX6_timesLog cX6_timesLog 2 (some .long), Cond.fieldLink RX6 9 "GainTrees$Scale" "logs" "[I", Cond.methodLink RX11 246 yX6_gainOf, Cond.instanceMethod yX6_gainOf, Cond.selects RX6 yX6_gainOf yX6_gainOf]
def wsX11_gain_r6 : List Cond := [Cond.code yX6_gainOf cX6_gainOf 7 (some .long), Cond.fieldLink RX6 60 "GainTrees$Split" "total" "I", Cond.methodLink RX11 250 yX6_widthOf, Cond.instanceMethod yX6_widthOf, Cond.selects RX6 yX6_widthOf yX6_widthOf, Cond.code yX6_widthOf cX6_widthOf 5 (some .long)]
def wsX11_gain : List Cond := .code yX11_gain cX11_gain 5 (some .int) :: ((wsX11_gain_r1 ++ (wsX11_gain_r2 ++ (wsX11_gain_r3 ++ (wsX11_gain_r4 ++ (wsX11_gain_r5 ++ wsX11_gain_r6))))) ++ wsX110 ++ wsX80 ++ wsX90 ++ wsX20 ++ wsX70 ++ wsX60 ++ (vx_atS RX11 160 "java/util/NoSuchElementException" ["java/lang/RuntimeException", "java/lang/Exception"]).filter goodWord ++ (vx_atS RX11 341 "java/lang/IllegalStateException" ["java/lang/RuntimeException", "java/lang/Exception"]).filter goodWord)
def wsX11_needWay : List Cond := .code yX11_needWay cX11_needWay 1 none :: ([.classLink RX11 266 "java/lang/IllegalArgumentException", .initialized "java/lang/IllegalArgumentException"] ++ (vx_atS RX11 270 "java/lang/IllegalArgumentException" ["java/lang/RuntimeException", "java/lang/Exception"]).filter goodWord)
def wsX11_needDecider : List Cond := .code yX11_needDecider cX11_needDecider 2 none :: ([.classLink RX11 337 "java/lang/IllegalStateException", .initialized "java/lang/IllegalStateException", .fieldLink RX11 70 "GainTrees" "made" "LGainTrees$Rules;", .fieldLink RX11 317 "GainTrees$Rules" "stand" "Z", .methodLink RX11 202 yX11_needTree, .instanceMethod yX11_needTree, .selects RX11 yX11_needTree yX11_needTree, .initialized RX11, .code yX11_needTree cX11_needTree 1 none, .fieldLink RX11 87 "GainTrees" "grown" "LGainTrees$Tree;", .fieldLink RX11 188 "GainTrees$Tree" "nodes" "I"] ++ wsX110 ++ wsX50 ++ wsX90 ++ (vx_atS RX11 341 "java/lang/IllegalStateException" ["java/lang/RuntimeException", "java/lang/Exception"]).filter goodWord)
def wsX11_decisionOn_r1 : List Cond := [Cond.fieldLink RX11 87 "GainTrees" "grown" "LGainTrees$Tree;", Cond.fieldLink RX11 70 "GainTrees" "made" "LGainTrees$Rules;", Cond.methodLink RX11 271 yX9_decisionOn, Cond.instanceMethod yX9_decisionOn, Cond.selects RX9 yX9_decisionOn yX9_decisionOn, Cond.initialized RX9, Cond.code yX9_decisionOn cX9_decisionOn 3 (some .int), Cond.fieldLink RX9 22 "GainTrees$Tree" "result" "[I", Cond.methodLink RX9 77 yX9_leafOf, Cond.instanceMethod yX9_leafOf, Cond.selects RX9 yX9_leafOf yX9_leafOf, Cond.code yX9_leafOf cX9_leafOf 5 (some .int), Cond.fieldLink RX9 28 "GainTrees$Tree" "kids" "[I", Cond.methodLink RX9 73 yX9_childFor, Cond.instanceMethod yX9_childFor, Cond.selects RX9 yX9_childFor yX9_childFor, Cond.code yX9_childFor cX9_childFor 5 (some .int), Cond.fieldLink RX9 9 "GainTrees$Tree" "attribute" "[I", Cond.fieldLink RX9 18 "GainTrees$Tree" "byCut" "[Z", Cond.fieldLink RX9 15 "GainTrees$Tree" "cut" "[I", Cond.methodLink RX9 64 yX8_cell, Cond.instanceMethod yX8_cell, Cond.selects RX8 yX8_cell yX8_cell, Cond.initialized RX8]
def wsX11_decisionOn_r2 : List Cond := [Cond.code yX8_cell cX8_cell 3 (some .int), Cond.fieldLink RX8 15 "GainTrees$Table" "most" "I", Cond.fieldLink RX8 21 "GainTrees$Table" "cells" "[I", Cond.methodLink RX8 25 yX8_isColumn, Cond.static yX8_isColumn, Cond.code yX8_isColumn cX8_isColumn 1 (some .boolean), Cond.methodLink RX9 70 yX9_childOf, Cond.instanceMethod yX9_childOf, Cond.selects RX9 yX9_childOf yX9_childOf, Cond.code yX9_childOf cX9_childOf 5 (some .int), Cond.fieldLink RX9 52 "GainTrees$Tree" "nodes" "I", Cond.fieldLink RX9 43 "GainTrees$Tree" "after" "[I", Cond.methodLink RX11 358 yX5_decisionOn, Cond.instanceMethod yX5_decisionOn, Cond.selects RX5 yX5_decisionOn yX5_decisionOn, Cond.initialized RX5, Cond.code yX5_decisionOn cX5_decisionOn 4 (some .int), Cond.fieldLink RX5 66 "GainTrees$Rules" "otherwise" "I", Cond.fieldLink RX5 30 "GainTrees$Rules" "result" "[I", Cond.methodLink RX5 178 yX5_firstFor, Cond.instanceMethod yX5_firstFor, Cond.selects RX5 yX5_firstFor yX5_firstFor, Cond.code yX5_firstFor cX5_firstFor 4 (some .int), Cond.fieldLink RX5 58 "GainTrees$Rules" "many" "I"]
def wsX11_decisionOn_r3 : List Cond := [Cond.fieldLink RX5 27 "GainTrees$Rules" "ranked" "[I", Cond.methodLink RX5 175 yX5_covers, Cond.instanceMethod yX5_covers, Cond.selects RX5 yX5_covers yX5_covers, Cond.code yX5_covers cX5_covers 5 (some .boolean), Cond.fieldLink RX5 24 "GainTrees$Rules" "size" "[I", Cond.fieldLink RX5 21 "GainTrees$Rules" "start" "[I", Cond.methodLink RX5 134 yX5_holds, Cond.instanceMethod yX5_holds, Cond.selects RX5 yX5_holds yX5_holds, Cond.code yX5_holds cX5_holds 5 (some .boolean), Cond.fieldLink RX5 11 "GainTrees$Rules" "attribute" "[I", Cond.fieldLink RX5 15 "GainTrees$Rules" "sort" "[I", Cond.fieldLink RX5 18 "GainTrees$Rules" "bound" "[I", Cond.methodLink RX5 131 yX8_cell]
def wsX11_decisionOn : List Cond := .code yX11_decisionOn cX11_decisionOn 4 (some .int) :: ((wsX11_decisionOn_r1 ++ (wsX11_decisionOn_r2 ++ wsX11_decisionOn_r3)) ++ wsX110 ++ wsX90 ++ wsX80 ++ wsX50)
def wsX11_decide_r1 : List Cond := [Cond.fieldLink RX11 26 "GainTrees" "reader" "LGainTrees$Reader;", Cond.fieldLink RX11 77 "GainTrees" "known" "LGainTrees$Names;", Cond.fieldLink RX11 47 "GainTrees" "single" "LGainTrees$Table;", Cond.fieldLink RX11 14 "GainTrees" "tape" "LGainTrees$Bytes;", Cond.methodLink RX11 253 yX11_needWay, Cond.static yX11_needWay, Cond.initialized RX11, Cond.code yX11_needWay cX11_needWay 1 none, Cond.classLink RX11 266 "java/lang/IllegalArgumentException", Cond.initialized "java/lang/IllegalArgumentException", Cond.methodLink RX11 256 yX11_needDecider, Cond.instanceMethod yX11_needDecider, Cond.selects RX11 yX11_needDecider yX11_needDecider, Cond.code yX11_needDecider cX11_needDecider 2 none, Cond.classLink RX11 337 "java/lang/IllegalStateException", Cond.initialized "java/lang/IllegalStateException", Cond.fieldLink RX11 70 "GainTrees" "made" "LGainTrees$Rules;", Cond.fieldLink RX11 317 "GainTrees$Rules" "stand" "Z", Cond.methodLink RX11 202 yX11_needTree, Cond.instanceMethod yX11_needTree, Cond.selects RX11 yX11_needTree yX11_needTree, Cond.code yX11_needTree cX11_needTree 1 none, Cond.fieldLink RX11 87 "GainTrees" "grown" "LGainTrees$Tree;", Cond.fieldLink RX11 188 "GainTrees$Tree" "nodes" "I"]
def wsX11_decide_r2 : List Cond := [Cond.methodLink RX11 259 yX4_readRow, Cond.instanceMethod yX4_readRow, Cond.selects RX4 yX4_readRow yX4_readRow, Cond.initialized RX4, Cond.code yX4_readRow cX4_readRow 4 (some .boolean), Cond.fieldLink RX4 177 "GainTrees$Names" "attributes" "I", Cond.fieldLink RX4 44 "GainTrees$Reader" "kind" "I", Cond.methodLink RX4 98 yX4_begin, Cond.instanceMethod yX4_begin, Cond.selects RX4 yX4_begin yX4_begin, Cond.code yX4_begin cX4_begin 1 none, Cond.fieldLink RX4 19 "GainTrees$Reader" "fault" "I", Cond.fieldLink RX4 9 "GainTrees$Reader" "faultAt" "I", Cond.fieldLink RX4 22 "GainTrees$Reader" "to" "I", Cond.methodLink RX4 25 yX4_step, Cond.instanceMethod yX4_step, Cond.selects RX4 yX4_step yX4_step, Cond.code yX4_step cX4_step 2 none, Cond.fieldLink RX4 15 "GainTrees$Reader" "tape" "LGainTrees$Bytes;", Cond.fieldLink RX4 31 "GainTrees$Bytes" "kept" "I", Cond.fieldLink RX4 28 "GainTrees$Reader" "from" "I", Cond.methodLink RX4 36 yX0_at, Cond.instanceMethod yX0_at, Cond.selects RX0 yX0_at yX0_at]
def wsX11_decide_r3 : List Cond := [Cond.initialized RX0, Cond.code yX0_at cX0_at 2 (some .int), Cond.fieldLink RX0 21 "GainTrees$Bytes" "kept" "I", Cond.fieldLink RX0 15 "GainTrees$Bytes" "data" "[B", Cond.methodLink RX4 40 yX4_isBlank, Cond.static yX4_isBlank, Cond.code yX4_isBlank cX4_isBlank 1 (some .boolean), Cond.methodLink RX4 47 yX4_isLetter, Cond.static yX4_isLetter, Cond.code yX4_isLetter cX4_isLetter 1 (some .boolean), Cond.methodLink RX4 50 yX4_stepWord, Cond.instanceMethod yX4_stepWord, Cond.selects RX4 yX4_stepWord yX4_stepWord, Cond.code yX4_stepWord cX4_stepWord 1 none, Cond.methodLink RX4 53 yX4_isDigit, Cond.static yX4_isDigit, Cond.code yX4_isDigit cX4_isDigit 1 (some .boolean), Cond.methodLink RX4 56 yX4_stepNumber, Cond.instanceMethod yX4_stepNumber, Cond.selects RX4 yX4_stepNumber yX4_stepNumber, Cond.code yX4_stepNumber cX4_stepNumber 5 none, Cond.fieldLink RX4 63 "GainTrees$Reader" "number" "J", Cond.constantLong RX4 67 (10), Cond.constantLong RX4 69 (1000)]
def wsX11_decide_r4 : List Cond := [Cond.methodLink RX4 59 yX4_stepSign, Cond.instanceMethod yX4_stepSign, Cond.selects RX4 yX4_stepSign yX4_stepSign, Cond.code yX4_stepSign cX4_stepSign 4 none, Cond.methodLink RX4 129 yX4_takeSign, Cond.instanceMethod yX4_takeSign, Cond.selects RX4 yX4_takeSign yX4_takeSign, Cond.code yX4_takeSign cX4_takeSign 2 (some .boolean), Cond.methodLink RX4 95 yX4_fail, Cond.instanceMethod yX4_fail, Cond.selects RX4 yX4_fail yX4_fail, Cond.code yX4_fail cX4_fail 2 (some .boolean), Cond.methodLink RX4 180 yX4_readCell, Cond.instanceMethod yX4_readCell, Cond.selects RX4 yX4_readCell yX4_readCell, Cond.code yX4_readCell cX4_readCell 7 (some .boolean), Cond.fieldLink RX4 160 "GainTrees$Table" "most" "I", Cond.fieldLink RX4 171 "GainTrees$Reader" "value" "I", Cond.methodLink RX4 140 yX2_valuesOf, Cond.instanceMethod yX2_valuesOf, Cond.selects RX2 yX2_valuesOf yX2_valuesOf, Cond.initialized RX2, Cond.code yX2_valuesOf cX2_valuesOf 2 (some .int), Cond.fieldLink RX2 26 "GainTrees$Names" "attributes" "I"]
def wsX11_decide_r5 : List Cond := [Cond.fieldLink RX2 19 "GainTrees$Names" "values" "[I", Cond.methodLink RX4 132 yX2_valueSlot, Cond.static yX2_valueSlot, Cond.code yX2_valueSlot cX2_valueSlot 2 (some .int), Cond.methodLink RX4 184 yX4_seekWord, Cond.instanceMethod yX4_seekWord, Cond.selects RX4 yX4_seekWord yX4_seekWord, Cond.code yX4_seekWord cX4_seekWord 4 (some .boolean), Cond.methodLink RX4 147 yX2_seek, Cond.instanceMethod yX2_seek, Cond.selects RX2 yX2_seek yX2_seek, Cond.code yX2_seek cX2_seek 7 (some .int), Cond.methodLink RX2 35 yX2_holds, Cond.instanceMethod yX2_holds, Cond.selects RX2 yX2_holds yX2_holds, Cond.code yX2_holds cX2_holds 6 (some .boolean), Cond.methodLink RX2 39 yX2_lengthOf, Cond.instanceMethod yX2_lengthOf, Cond.selects RX2 yX2_lengthOf yX2_lengthOf, Cond.code yX2_lengthOf cX2_lengthOf 2 (some .int), Cond.fieldLink RX2 15 "GainTrees$Names" "lengths" "[I", Cond.methodLink RX2 42 yX2_letterOf, Cond.instanceMethod yX2_letterOf, Cond.selects RX2 yX2_letterOf yX2_letterOf]
def wsX11_decide_r6 : List Cond := [Cond.code yX2_letterOf cX2_letterOf 3 (some .int), Cond.fieldLink RX2 11 "GainTrees$Names" "letters" "[B", Cond.methodLink RX2 29 yX0_at, Cond.methodLink RX4 188 yX4_checkNumber, Cond.instanceMethod yX4_checkNumber, Cond.selects RX4 yX4_checkNumber yX4_checkNumber, Cond.code yX4_checkNumber cX4_checkNumber 1 (some .boolean), Cond.constantLong RX4 191 (-1000000000), Cond.constantLong RX4 193 (1000000000), Cond.methodLink RX4 174 yX8_put, Cond.instanceMethod yX8_put, Cond.selects RX8 yX8_put yX8_put, Cond.initialized RX8, Cond.code yX8_put cX8_put 4 none, Cond.fieldLink RX8 15 "GainTrees$Table" "most" "I", Cond.fieldLink RX8 21 "GainTrees$Table" "cells" "[I", Cond.methodLink RX8 25 yX8_isColumn, Cond.static yX8_isColumn, Cond.code yX8_isColumn cX8_isColumn 1 (some .boolean), Cond.methodLink RX11 113 yX0_shorten, Cond.instanceMethod yX0_shorten, Cond.selects RX0 yX0_shorten yX0_shorten, Cond.code yX0_shorten cX0_shorten 2 none, Cond.fieldLink RX0 25 "GainTrees$Bytes" "told" "I"]
def wsX11_decide_r7 : List Cond := [Cond.methodLink RX11 262 yX11_decisionOn, Cond.instanceMethod yX11_decisionOn, Cond.selects RX11 yX11_decisionOn yX11_decisionOn, Cond.code yX11_decisionOn cX11_decisionOn 4 (some .int), Cond.methodLink RX11 271 yX9_decisionOn, Cond.instanceMethod yX9_decisionOn, Cond.selects RX9 yX9_decisionOn yX9_decisionOn, Cond.initialized RX9, Cond.code yX9_decisionOn cX9_decisionOn 3 (some .int), Cond.fieldLink RX9 22 "GainTrees$Tree" "result" "[I", Cond.methodLink RX9 77 yX9_leafOf, Cond.instanceMethod yX9_leafOf, Cond.selects RX9 yX9_leafOf yX9_leafOf, Cond.code yX9_leafOf cX9_leafOf 5 (some .int), Cond.fieldLink RX9 28 "GainTrees$Tree" "kids" "[I", Cond.methodLink RX9 73 yX9_childFor, Cond.instanceMethod yX9_childFor, Cond.selects RX9 yX9_childFor yX9_childFor, Cond.code yX9_childFor cX9_childFor 5 (some .int), Cond.fieldLink RX9 9 "GainTrees$Tree" "attribute" "[I", Cond.fieldLink RX9 18 "GainTrees$Tree" "byCut" "[Z", Cond.fieldLink RX9 15 "GainTrees$Tree" "cut" "[I", Cond.methodLink RX9 64 yX8_cell, Cond.instanceMethod yX8_cell]
def wsX11_decide_r8 : List Cond := [Cond.selects RX8 yX8_cell yX8_cell, Cond.code yX8_cell cX8_cell 3 (some .int), Cond.methodLink RX9 70 yX9_childOf, Cond.instanceMethod yX9_childOf, Cond.selects RX9 yX9_childOf yX9_childOf, Cond.code yX9_childOf cX9_childOf 5 (some .int), Cond.fieldLink RX9 52 "GainTrees$Tree" "nodes" "I", Cond.fieldLink RX9 43 "GainTrees$Tree" "after" "[I", Cond.methodLink RX11 358 yX5_decisionOn, Cond.instanceMethod yX5_decisionOn, Cond.selects RX5 yX5_decisionOn yX5_decisionOn, Cond.initialized RX5, Cond.code yX5_decisionOn cX5_decisionOn 4 (some .int), Cond.fieldLink RX5 66 "GainTrees$Rules" "otherwise" "I", Cond.fieldLink RX5 30 "GainTrees$Rules" "result" "[I", Cond.methodLink RX5 178 yX5_firstFor, Cond.instanceMethod yX5_firstFor, Cond.selects RX5 yX5_firstFor yX5_firstFor, Cond.code yX5_firstFor cX5_firstFor 4 (some .int), Cond.fieldLink RX5 58 "GainTrees$Rules" "many" "I", Cond.fieldLink RX5 27 "GainTrees$Rules" "ranked" "[I", Cond.methodLink RX5 175 yX5_covers, Cond.instanceMethod yX5_covers, Cond.selects RX5 yX5_covers yX5_covers]
def wsX11_decide_r9 : List Cond := [Cond.code yX5_covers cX5_covers 5 (some .boolean), Cond.fieldLink RX5 24 "GainTrees$Rules" "size" "[I", Cond.fieldLink RX5 21 "GainTrees$Rules" "start" "[I", Cond.methodLink RX5 134 yX5_holds, Cond.instanceMethod yX5_holds, Cond.selects RX5 yX5_holds yX5_holds, Cond.code yX5_holds cX5_holds 5 (some .boolean), Cond.fieldLink RX5 11 "GainTrees$Rules" "attribute" "[I", Cond.fieldLink RX5 15 "GainTrees$Rules" "sort" "[I", Cond.fieldLink RX5 18 "GainTrees$Rules" "bound" "[I", Cond.methodLink RX5 131 yX8_cell]
def wsX11_decide : List Cond := .code yX11_decide cX11_decide 3 (some .int) :: ((wsX11_decide_r1 ++ (wsX11_decide_r2 ++ (wsX11_decide_r3 ++ (wsX11_decide_r4 ++ (wsX11_decide_r5 ++ (wsX11_decide_r6 ++ (wsX11_decide_r7 ++ (wsX11_decide_r8 ++ wsX11_decide_r9)))))))) ++ wsX110 ++ wsX50 ++ wsX90 ++ wsX20 ++ wsX40 ++ wsX00 ++ wsX80 ++ (vx_atS RX11 270 "java/lang/IllegalArgumentException" ["java/lang/RuntimeException", "java/lang/Exception"]).filter goodWord ++ (vx_atS RX11 341 "java/lang/IllegalStateException" ["java/lang/RuntimeException", "java/lang/Exception"]).filter goodWord)
def wsX11_tried_r1 : List Cond := [Cond.fieldLink RX11 124 "GainTrees$Table" "size" "I", Cond.methodLink RX11 136 yX11_needSet, Cond.static yX11_needSet, Cond.initialized RX11, Cond.code yX11_needSet cX11_needSet 1 none, Cond.classLink RX11 266 "java/lang/IllegalArgumentException", Cond.initialized "java/lang/IllegalArgumentException", Cond.methodLink RX11 253 yX11_needWay, Cond.static yX11_needWay, Cond.code yX11_needWay cX11_needWay 1 none, Cond.methodLink RX11 256 yX11_needDecider, Cond.instanceMethod yX11_needDecider, Cond.selects RX11 yX11_needDecider yX11_needDecider, Cond.code yX11_needDecider cX11_needDecider 2 none, Cond.classLink RX11 337 "java/lang/IllegalStateException", Cond.initialized "java/lang/IllegalStateException", Cond.fieldLink RX11 70 "GainTrees" "made" "LGainTrees$Rules;", Cond.fieldLink RX11 317 "GainTrees$Rules" "stand" "Z", Cond.methodLink RX11 202 yX11_needTree, Cond.instanceMethod yX11_needTree, Cond.selects RX11 yX11_needTree yX11_needTree, Cond.code yX11_needTree cX11_needTree 1 none, Cond.fieldLink RX11 87 "GainTrees" "grown" "LGainTrees$Tree;", Cond.fieldLink RX11 188 "GainTrees$Tree" "nodes" "I"]
def wsX11_tried_r2 : List Cond := [Cond.methodLink RX11 142 yX11_tableOf, Cond.instanceMethod yX11_tableOf, Cond.selects RX11 yX11_tableOf yX11_tableOf, Cond.code yX11_tableOf cX11_tableOf 2 (some (.object "GainTrees$Table")), Cond.fieldLink RX11 40 "GainTrees" "training" "LGainTrees$Table;", Cond.fieldLink RX11 44 "GainTrees" "holdout" "LGainTrees$Table;", Cond.methodLink RX11 163 yX8_classOf, Cond.instanceMethod yX8_classOf, Cond.selects RX8 yX8_classOf yX8_classOf, Cond.initialized RX8, Cond.code yX8_classOf cX8_classOf 2 (some .int), Cond.methodLink RX8 29 yX8_cell, Cond.instanceMethod yX8_cell, Cond.selects RX8 yX8_cell yX8_cell, Cond.code yX8_cell cX8_cell 3 (some .int), Cond.fieldLink RX8 15 "GainTrees$Table" "most" "I", Cond.fieldLink RX8 21 "GainTrees$Table" "cells" "[I", Cond.methodLink RX8 25 yX8_isColumn, Cond.static yX8_isColumn, Cond.code yX8_isColumn cX8_isColumn 1 (some .boolean), Cond.methodLink RX11 262 yX11_decisionOn, Cond.instanceMethod yX11_decisionOn, Cond.selects RX11 yX11_decisionOn yX11_decisionOn, Cond.code yX11_decisionOn cX11_decisionOn 4 (some .int)]
def wsX11_tried_r3 : List Cond := [Cond.methodLink RX11 271 yX9_decisionOn, Cond.instanceMethod yX9_decisionOn, Cond.selects RX9 yX9_decisionOn yX9_decisionOn, Cond.initialized RX9, Cond.code yX9_decisionOn cX9_decisionOn 3 (some .int), Cond.fieldLink RX9 22 "GainTrees$Tree" "result" "[I", Cond.methodLink RX9 77 yX9_leafOf, Cond.instanceMethod yX9_leafOf, Cond.selects RX9 yX9_leafOf yX9_leafOf, Cond.code yX9_leafOf cX9_leafOf 5 (some .int), Cond.fieldLink RX9 28 "GainTrees$Tree" "kids" "[I", Cond.methodLink RX9 73 yX9_childFor, Cond.instanceMethod yX9_childFor, Cond.selects RX9 yX9_childFor yX9_childFor, Cond.code yX9_childFor cX9_childFor 5 (some .int), Cond.fieldLink RX9 9 "GainTrees$Tree" "attribute" "[I", Cond.fieldLink RX9 18 "GainTrees$Tree" "byCut" "[Z", Cond.fieldLink RX9 15 "GainTrees$Tree" "cut" "[I", Cond.methodLink RX9 64 yX8_cell, Cond.methodLink RX9 70 yX9_childOf, Cond.instanceMethod yX9_childOf, Cond.selects RX9 yX9_childOf yX9_childOf, Cond.code yX9_childOf cX9_childOf 5 (some .int), Cond.fieldLink RX9 52 "GainTrees$Tree" "nodes" "I"]
def wsX11_tried_r4 : List Cond := [Cond.fieldLink RX9 43 "GainTrees$Tree" "after" "[I", Cond.methodLink RX11 358 yX5_decisionOn, Cond.instanceMethod yX5_decisionOn, Cond.selects RX5 yX5_decisionOn yX5_decisionOn, Cond.initialized RX5, Cond.code yX5_decisionOn cX5_decisionOn 4 (some .int), Cond.fieldLink RX5 66 "GainTrees$Rules" "otherwise" "I", Cond.fieldLink RX5 30 "GainTrees$Rules" "result" "[I", Cond.methodLink RX5 178 yX5_firstFor, Cond.instanceMethod yX5_firstFor, Cond.selects RX5 yX5_firstFor yX5_firstFor, Cond.code yX5_firstFor cX5_firstFor 4 (some .int), Cond.fieldLink RX5 58 "GainTrees$Rules" "many" "I", Cond.fieldLink RX5 27 "GainTrees$Rules" "ranked" "[I", Cond.methodLink RX5 175 yX5_covers, Cond.instanceMethod yX5_covers, Cond.selects RX5 yX5_covers yX5_covers, Cond.code yX5_covers cX5_covers 5 (some .boolean), Cond.fieldLink RX5 24 "GainTrees$Rules" "size" "[I", Cond.fieldLink RX5 21 "GainTrees$Rules" "start" "[I", Cond.methodLink RX5 134 yX5_holds, Cond.instanceMethod yX5_holds, Cond.selects RX5 yX5_holds yX5_holds, Cond.code yX5_holds cX5_holds 5 (some .boolean)]
def wsX11_tried_r5 : List Cond := [Cond.fieldLink RX5 11 "GainTrees$Rules" "attribute" "[I", Cond.fieldLink RX5 15 "GainTrees$Rules" "sort" "[I", Cond.fieldLink RX5 18 "GainTrees$Rules" "bound" "[I", Cond.methodLink RX5 131 yX8_cell]
def wsX11_tried : List Cond := .code yX11_tried cX11_tried 8 (some .int) :: ((wsX11_tried_r1 ++ (wsX11_tried_r2 ++ (wsX11_tried_r3 ++ (wsX11_tried_r4 ++ wsX11_tried_r5)))) ++ wsX80 ++ wsX110 ++ wsX50 ++ wsX90 ++ (vx_atS RX11 270 "java/lang/IllegalArgumentException" ["java/lang/RuntimeException", "java/lang/Exception"]).filter goodWord ++ (vx_atS RX11 341 "java/lang/IllegalStateException" ["java/lang/RuntimeException", "java/lang/Exception"]).filter goodWord)
def wsX11_errors_r1 : List Cond := [Cond.fieldLink RX11 124 "GainTrees$Table" "size" "I", Cond.methodLink RX11 136 yX11_needSet, Cond.static yX11_needSet, Cond.initialized RX11, Cond.code yX11_needSet cX11_needSet 1 none, Cond.classLink RX11 266 "java/lang/IllegalArgumentException", Cond.initialized "java/lang/IllegalArgumentException", Cond.methodLink RX11 253 yX11_needWay, Cond.static yX11_needWay, Cond.code yX11_needWay cX11_needWay 1 none, Cond.methodLink RX11 256 yX11_needDecider, Cond.instanceMethod yX11_needDecider, Cond.selects RX11 yX11_needDecider yX11_needDecider, Cond.code yX11_needDecider cX11_needDecider 2 none, Cond.classLink RX11 337 "java/lang/IllegalStateException", Cond.initialized "java/lang/IllegalStateException", Cond.fieldLink RX11 70 "GainTrees" "made" "LGainTrees$Rules;", Cond.fieldLink RX11 317 "GainTrees$Rules" "stand" "Z", Cond.methodLink RX11 202 yX11_needTree, Cond.instanceMethod yX11_needTree, Cond.selects RX11 yX11_needTree yX11_needTree, Cond.code yX11_needTree cX11_needTree 1 none, Cond.fieldLink RX11 87 "GainTrees" "grown" "LGainTrees$Tree;", Cond.fieldLink RX11 188 "GainTrees$Tree" "nodes" "I"]
def wsX11_errors_r2 : List Cond := [Cond.methodLink RX11 142 yX11_tableOf, Cond.instanceMethod yX11_tableOf, Cond.selects RX11 yX11_tableOf yX11_tableOf, Cond.code yX11_tableOf cX11_tableOf 2 (some (.object "GainTrees$Table")), Cond.fieldLink RX11 40 "GainTrees" "training" "LGainTrees$Table;", Cond.fieldLink RX11 44 "GainTrees" "holdout" "LGainTrees$Table;", Cond.methodLink RX11 262 yX11_decisionOn, Cond.instanceMethod yX11_decisionOn, Cond.selects RX11 yX11_decisionOn yX11_decisionOn, Cond.code yX11_decisionOn cX11_decisionOn 4 (some .int), Cond.methodLink RX11 271 yX9_decisionOn, Cond.instanceMethod yX9_decisionOn, Cond.selects RX9 yX9_decisionOn yX9_decisionOn, Cond.initialized RX9, Cond.code yX9_decisionOn cX9_decisionOn 3 (some .int), Cond.fieldLink RX9 22 "GainTrees$Tree" "result" "[I", Cond.methodLink RX9 77 yX9_leafOf, Cond.instanceMethod yX9_leafOf, Cond.selects RX9 yX9_leafOf yX9_leafOf, Cond.code yX9_leafOf cX9_leafOf 5 (some .int), Cond.fieldLink RX9 28 "GainTrees$Tree" "kids" "[I", Cond.methodLink RX9 73 yX9_childFor, Cond.instanceMethod yX9_childFor, Cond.selects RX9 yX9_childFor yX9_childFor]
def wsX11_errors_r3 : List Cond := [Cond.code yX9_childFor cX9_childFor 5 (some .int), Cond.fieldLink RX9 9 "GainTrees$Tree" "attribute" "[I", Cond.fieldLink RX9 18 "GainTrees$Tree" "byCut" "[Z", Cond.fieldLink RX9 15 "GainTrees$Tree" "cut" "[I", Cond.methodLink RX9 64 yX8_cell, Cond.instanceMethod yX8_cell, Cond.selects RX8 yX8_cell yX8_cell, Cond.initialized RX8, Cond.code yX8_cell cX8_cell 3 (some .int), Cond.fieldLink RX8 15 "GainTrees$Table" "most" "I", Cond.fieldLink RX8 21 "GainTrees$Table" "cells" "[I", Cond.methodLink RX8 25 yX8_isColumn, Cond.static yX8_isColumn, Cond.code yX8_isColumn cX8_isColumn 1 (some .boolean), Cond.methodLink RX9 70 yX9_childOf, Cond.instanceMethod yX9_childOf, Cond.selects RX9 yX9_childOf yX9_childOf, Cond.code yX9_childOf cX9_childOf 5 (some .int), Cond.fieldLink RX9 52 "GainTrees$Tree" "nodes" "I", Cond.fieldLink RX9 43 "GainTrees$Tree" "after" "[I", Cond.methodLink RX11 358 yX5_decisionOn, Cond.instanceMethod yX5_decisionOn, Cond.selects RX5 yX5_decisionOn yX5_decisionOn, Cond.initialized RX5]
def wsX11_errors_r4 : List Cond := [Cond.code yX5_decisionOn cX5_decisionOn 4 (some .int), Cond.fieldLink RX5 66 "GainTrees$Rules" "otherwise" "I", Cond.fieldLink RX5 30 "GainTrees$Rules" "result" "[I", Cond.methodLink RX5 178 yX5_firstFor, Cond.instanceMethod yX5_firstFor, Cond.selects RX5 yX5_firstFor yX5_firstFor, Cond.code yX5_firstFor cX5_firstFor 4 (some .int), Cond.fieldLink RX5 58 "GainTrees$Rules" "many" "I", Cond.fieldLink RX5 27 "GainTrees$Rules" "ranked" "[I", Cond.methodLink RX5 175 yX5_covers, Cond.instanceMethod yX5_covers, Cond.selects RX5 yX5_covers yX5_covers, Cond.code yX5_covers cX5_covers 5 (some .boolean), Cond.fieldLink RX5 24 "GainTrees$Rules" "size" "[I", Cond.fieldLink RX5 21 "GainTrees$Rules" "start" "[I", Cond.methodLink RX5 134 yX5_holds, Cond.instanceMethod yX5_holds, Cond.selects RX5 yX5_holds yX5_holds, Cond.code yX5_holds cX5_holds 5 (some .boolean), Cond.fieldLink RX5 11 "GainTrees$Rules" "attribute" "[I", Cond.fieldLink RX5 15 "GainTrees$Rules" "sort" "[I", Cond.fieldLink RX5 18 "GainTrees$Rules" "bound" "[I", Cond.methodLink RX5 131 yX8_cell, Cond.methodLink RX11 163 yX8_classOf]
def wsX11_errors_r5 : List Cond := [Cond.instanceMethod yX8_classOf, Cond.selects RX8 yX8_classOf yX8_classOf, Cond.code yX8_classOf cX8_classOf 2 (some .int), Cond.methodLink RX8 29 yX8_cell]
def wsX11_errors : List Cond := .code yX11_errors cX11_errors 6 (some .int) :: ((wsX11_errors_r1 ++ (wsX11_errors_r2 ++ (wsX11_errors_r3 ++ (wsX11_errors_r4 ++ wsX11_errors_r5)))) ++ wsX80 ++ wsX110 ++ wsX50 ++ wsX90 ++ (vx_atS RX11 270 "java/lang/IllegalArgumentException" ["java/lang/RuntimeException", "java/lang/Exception"]).filter goodWord ++ (vx_atS RX11 341 "java/lang/IllegalStateException" ["java/lang/RuntimeException", "java/lang/Exception"]).filter goodWord)
def wsX11_folds_r1 : List Cond := [Cond.classLink RX11 266 "java/lang/IllegalArgumentException", Cond.initialized "java/lang/IllegalArgumentException", Cond.fieldLink RX11 99 "GainTrees" "grower" "LGainTrees$Grower;", Cond.fieldLink RX11 77 "GainTrees" "known" "LGainTrees$Names;", Cond.fieldLink RX11 91 "GainTrees" "spareTree" "LGainTrees$Tree;", Cond.fieldLink RX11 40 "GainTrees" "training" "LGainTrees$Table;", Cond.fieldLink RX11 124 "GainTrees$Table" "size" "I", Cond.methodLink RX11 170 yX11_needManner, Cond.static yX11_needManner, Cond.initialized RX11, Cond.code yX11_needManner cX11_needManner 3 none, Cond.methodLink RX11 174 yX11_needRows, Cond.instanceMethod yX11_needRows, Cond.selects RX11 yX11_needRows yX11_needRows, Cond.code yX11_needRows cX11_needRows 2 none, Cond.classLink RX11 337 "java/lang/IllegalStateException", Cond.initialized "java/lang/IllegalStateException", Cond.methodLink RX11 177 yX1_aim, Cond.instanceMethod yX1_aim, Cond.selects RX1 yX1_aim yX1_aim, Cond.initialized RX1, Cond.code yX1_aim cX1_aim 4 none, Cond.fieldLink RX1 63 "GainTrees$Grower" "mode" "I", Cond.fieldLink RX1 67 "GainTrees$Grower" "least" "I"]
def wsX11_folds_r2 : List Cond := [Cond.fieldLink RX1 70 "GainTrees$Grower" "depth" "I", Cond.methodLink RX11 180 yX1_gather, Cond.instanceMethod yX1_gather, Cond.selects RX1 yX1_gather yX1_gather, Cond.code yX1_gather cX1_gather 4 none, Cond.fieldLink RX1 73 "GainTrees$Grower" "used" "I", Cond.fieldLink RX1 51 "GainTrees$Grower" "table" "LGainTrees$Table;", Cond.fieldLink RX1 76 "GainTrees$Table" "size" "I", Cond.fieldLink RX1 21 "GainTrees$Grower" "mark" "[I", Cond.fieldLink RX1 9 "GainTrees$Grower" "rows" "[I", Cond.methodLink RX11 184 yX1_build, Cond.instanceMethod yX1_build, Cond.selects RX1 yX1_build yX1_build, Cond.code yX1_build cX1_build 8 none, Cond.fieldLink RX1 55 "GainTrees$Grower" "names" "LGainTrees$Names;", Cond.fieldLink RX1 59 "GainTrees$Grower" "tree" "LGainTrees$Tree;", Cond.fieldLink RX1 89 "GainTrees$Grower" "waiting" "I", Cond.fieldLink RX1 30 "GainTrees$Grower" "starts" "[I", Cond.fieldLink RX1 33 "GainTrees$Grower" "stops" "[I", Cond.fieldLink RX1 24 "GainTrees$Grower" "parents" "[I", Cond.fieldLink RX1 27 "GainTrees$Grower" "places" "[I", Cond.fieldLink RX1 115 "GainTrees$Split" "attribute" "I", Cond.fieldLink RX1 118 "GainTrees$Split" "values" "I", Cond.fieldLink RX1 121 "GainTrees$Split" "cut" "I"]
def wsX11_folds_r3 : List Cond := [Cond.methodLink RX1 81 yX9_wipe, Cond.instanceMethod yX9_wipe, Cond.selects RX9 yX9_wipe yX9_wipe, Cond.initialized RX9, Cond.code yX9_wipe cX9_wipe 1 none, Cond.fieldLink RX9 52 "GainTrees$Tree" "nodes" "I", Cond.methodLink RX1 86 yX1_sortRows, Cond.instanceMethod yX1_sortRows, Cond.selects RX1 yX1_sortRows yX1_sortRows, Cond.code yX1_sortRows cX1_sortRows 2 none, Cond.fieldLink RX1 134 "GainTrees$Names" "attributes" "I", Cond.methodLink RX1 139 yX2_valuesOf, Cond.instanceMethod yX2_valuesOf, Cond.selects RX2 yX2_valuesOf yX2_valuesOf, Cond.initialized RX2, Cond.code yX2_valuesOf cX2_valuesOf 2 (some .int), Cond.fieldLink RX2 26 "GainTrees$Names" "attributes" "I", Cond.fieldLink RX2 19 "GainTrees$Names" "values" "[I", Cond.methodLink RX1 143 yX1_sortBy, Cond.instanceMethod yX1_sortBy, Cond.selects RX1 yX1_sortBy yX1_sortBy, Cond.code yX1_sortBy cX1_sortBy 7 none, Cond.fieldLink RX1 18 "GainTrees$Grower" "sorted" "[I", Cond.methodLink RX1 147 yX8_cell]
def wsX11_folds_r4 : List Cond := [Cond.instanceMethod yX8_cell, Cond.selects RX8 yX8_cell yX8_cell, Cond.initialized RX8, Cond.code yX8_cell cX8_cell 3 (some .int), Cond.fieldLink RX8 15 "GainTrees$Table" "most" "I", Cond.fieldLink RX8 21 "GainTrees$Table" "cells" "[I", Cond.methodLink RX8 25 yX8_isColumn, Cond.static yX8_isColumn, Cond.code yX8_isColumn cX8_isColumn 1 (some .boolean), Cond.methodLink RX1 92 yX1_push, Cond.instanceMethod yX1_push, Cond.selects RX1 yX1_push yX1_push, Cond.code yX1_push cX1_push 5 none, Cond.methodLink RX1 96 yX9_add, Cond.instanceMethod yX9_add, Cond.selects RX9 yX9_add yX9_add, Cond.code yX9_add cX9_add 5 (some .int), Cond.fieldLink RX9 31 "GainTrees$Tree" "depth" "[I", Cond.fieldLink RX9 34 "GainTrees$Tree" "parent" "[I", Cond.fieldLink RX9 37 "GainTrees$Tree" "place" "[I", Cond.fieldLink RX9 22 "GainTrees$Tree" "result" "[I", Cond.fieldLink RX9 25 "GainTrees$Tree" "amount" "[I", Cond.fieldLink RX9 40 "GainTrees$Tree" "counts" "[I", Cond.methodLink RX9 56 yX9_depthBelow]
def wsX11_folds_r5 : List Cond := [Cond.instanceMethod yX9_depthBelow, Cond.selects RX9 yX9_depthBelow yX9_depthBelow, Cond.code yX9_depthBelow cX9_depthBelow 2 (some .int), Cond.methodLink RX9 60 yX9_makeLeaf, Cond.instanceMethod yX9_makeLeaf, Cond.selects RX9 yX9_makeLeaf yX9_makeLeaf, Cond.code yX9_makeLeaf cX9_makeLeaf 2 none, Cond.fieldLink RX9 9 "GainTrees$Tree" "attribute" "[I", Cond.fieldLink RX9 15 "GainTrees$Tree" "cut" "[I", Cond.fieldLink RX9 18 "GainTrees$Tree" "byCut" "[Z", Cond.fieldLink RX9 28 "GainTrees$Tree" "kids" "[I", Cond.methodLink RX1 100 yX1_isLeaf, Cond.instanceMethod yX1_isLeaf, Cond.selects RX1 yX1_isLeaf yX1_isLeaf, Cond.code yX1_isLeaf cX1_isLeaf 5 (some .boolean), Cond.fieldLink RX1 160 "GainTrees$Tree" "result" "[I", Cond.fieldLink RX1 163 "GainTrees$Tree" "counts" "[I", Cond.fieldLink RX1 166 "GainTrees$Tree" "depth" "[I", Cond.methodLink RX1 150 yX8_classOf, Cond.instanceMethod yX8_classOf, Cond.selects RX8 yX8_classOf yX8_classOf, Cond.code yX8_classOf cX8_classOf 2 (some .int), Cond.methodLink RX8 29 yX8_cell, Cond.methodLink RX1 153 yX9_note]
def wsX11_folds_r6 : List Cond := [Cond.instanceMethod yX9_note, Cond.selects RX9 yX9_note yX9_note, Cond.code yX9_note cX9_note 3 none, Cond.methodLink RX1 157 yX9_commonest, Cond.instanceMethod yX9_commonest, Cond.selects RX9 yX9_commonest yX9_commonest, Cond.code yX9_commonest cX9_commonest 4 (some .int), Cond.methodLink RX1 104 yX1_findSplits, Cond.instanceMethod yX1_findSplits, Cond.selects RX1 yX1_findSplits yX1_findSplits, Cond.code yX1_findSplits cX1_findSplits 6 none, Cond.fieldLink RX1 43 "GainTrees$Grower" "best" "[LGainTrees$Split;", Cond.fieldLink RX1 168 "GainTrees$Split" "stands" "Z", Cond.methodLink RX1 172 yX1_tryCuts, Cond.instanceMethod yX1_tryCuts, Cond.selects RX1 yX1_tryCuts yX1_tryCuts, Cond.code yX1_tryCuts cX1_tryCuts 10 none, Cond.fieldLink RX1 39 "GainTrees$Grower" "trial" "LGainTrees$Split;", Cond.fieldLink RX1 194 "GainTrees$Split" "sizes" "[I", Cond.methodLink RX1 180 yX7_open, Cond.instanceMethod yX7_open, Cond.selects RX7 yX7_open yX7_open, Cond.initialized RX7, Cond.code yX7_open cX7_open 5 none]
def wsX11_folds_r7 : List Cond := [Cond.fieldLink RX7 18 "GainTrees$Split" "attribute" "I", Cond.methodLink RX7 22 Lib.Math.max.name, Cond.static Lib.Math.max.name, Cond.initialized "java/lang/Math", Cond.code Lib.Math.max.name Lib.Math.max.code 2 (some .int), Cond.methodLink RX7 28 Lib.Math.min.name, Cond.static Lib.Math.min.name, Cond.code Lib.Math.min.name Lib.Math.min.code 2 (some .int), Cond.fieldLink RX7 31 "GainTrees$Split" "values" "I", Cond.fieldLink RX7 34 "GainTrees$Split" "cut" "I", Cond.fieldLink RX7 37 "GainTrees$Split" "children" "I", Cond.fieldLink RX7 40 "GainTrees$Split" "total" "I", Cond.fieldLink RX7 43 "GainTrees$Split" "stands" "Z", Cond.fieldLink RX7 9 "GainTrees$Split" "sizes" "[I", Cond.fieldLink RX7 15 "GainTrees$Split" "counts" "[I", Cond.methodLink RX1 187 yX7_take, Cond.instanceMethod yX7_take, Cond.selects RX7 yX7_take yX7_take, Cond.code yX7_take cX7_take 3 none, Cond.methodLink RX1 190 yX1_offer, Cond.instanceMethod yX1_offer, Cond.selects RX1 yX1_offer yX1_offer, Cond.code yX1_offer cX1_offer 2 none, Cond.fieldLink RX1 47 "GainTrees$Grower" "scale" "LGainTrees$Scale;"]
def wsX11_folds_r8 : List Cond := [Cond.methodLink RX1 200 yX7_mayBe, Cond.instanceMethod yX7_mayBe, Cond.selects RX7 yX7_mayBe yX7_mayBe, Cond.code yX7_mayBe cX7_mayBe 4 (some .boolean), Cond.methodLink RX1 204 yX7_addSquares, Cond.instanceMethod yX7_addSquares, Cond.selects RX7 yX7_addSquares yX7_addSquares, Cond.code yX7_addSquares cX7_addSquares 7 none, Cond.fieldLink RX7 56 "GainTrees$Split" "squares" "J", Cond.fieldLink RX7 59 "GainTrees$Split" "divisor" "J", Cond.methodLink RX1 207 yX6_weigh, Cond.instanceMethod yX6_weigh, Cond.selects RX6 yX6_weigh yX6_weigh, Cond.initialized RX6, Cond.code yX6_weigh cX6_weigh 6 none, Cond.fieldLink RX6 40 "GainTrees$Split" "children" "I", Cond.fieldLink RX6 46 "GainTrees$Split" "sizes" "[I", Cond.fieldLink RX6 53 "GainTrees$Split" "counts" "[I", Cond.fieldLink RX6 56 "GainTrees$Split" "weight" "J", Cond.methodLink RX6 49 yX6_timesLog, Cond.instanceMethod yX6_timesLog, Cond.selects RX6 yX6_timesLog yX6_timesLog, Cond.code yX6_timesLog cX6_timesLog 2 (some .long), Cond.fieldLink RX6 9 "GainTrees$Scale" "logs" "[I"]
def wsX11_folds_r9 : List Cond := [Cond.methodLink RX1 212 yX6_order, Cond.instanceMethod yX6_order, Cond.selects RX6 yX6_order yX6_order, Cond.code yX6_order cX6_order 6 (some .int), Cond.constantLong RX6 67 (2), Cond.fieldLink RX6 60 "GainTrees$Split" "total" "I", Cond.methodLink RX6 63 yX6_orderOfSquares, Cond.static yX6_orderOfSquares, Cond.code yX6_orderOfSquares cX6_orderOfSquares 19 (some .int), Cond.fieldLink RX6 97 "GainTrees$Split" "squares" "J", Cond.fieldLink RX6 100 "GainTrees$Split" "divisor" "J", Cond.methodLink RX6 91 yJ13_compare_74951, Cond.static yJ13_compare_74951, Cond.initialized RJ13, Cond.code yJ13_compare_74951 cJ13_compare_74951 4 (some .int), Cond.methodLink RX6 69 yX6_clearPowers, Cond.instanceMethod yX6_clearPowers, Cond.selects RX6 yX6_clearPowers yX6_clearPowers, Cond.code yX6_clearPowers cX6_clearPowers 2 none, Cond.fieldLink RX6 18 "GainTrees$Scale" "power" "[I", Cond.methodLink RX6 72 yX6_addPowers, Cond.instanceMethod yX6_addPowers, Cond.selects RX6 yX6_addPowers yX6_addPowers, Cond.code yX6_addPowers cX6_addPowers 5 none]
def wsX11_folds_r10 : List Cond := [Cond.methodLink RX6 103 yX6_addPower, Cond.instanceMethod yX6_addPower, Cond.selects RX6 yX6_addPower yX6_addPower, Cond.code yX6_addPower cX6_addPower 3 none, Cond.methodLink RX6 76 yX6_sign, Cond.instanceMethod yX6_sign, Cond.selects RX6 yX6_sign yX6_sign, Cond.code yX6_sign cX6_sign 7 (some .int), Cond.methodLink RX6 107 Lib.Math.abs.name, Cond.static Lib.Math.abs.name, Cond.code Lib.Math.abs.name Lib.Math.abs.code 1 (some .int), Cond.fieldLink RX6 24 "GainTrees$Scale" "above" "LGainTrees$Product;", Cond.fieldLink RX6 28 "GainTrees$Scale" "below" "LGainTrees$Product;", Cond.fieldLink RX6 15 "GainTrees$Scale" "factor" "[I", Cond.methodLink RX6 112 yX3_begin, Cond.instanceMethod yX3_begin, Cond.selects RX3 yX3_begin yX3_begin, Cond.initialized RX3, Cond.code yX3_begin cX3_begin 1 none, Cond.fieldLink RX3 9 "GainTrees$Product" "limbs" "[I", Cond.fieldLink RX3 13 "GainTrees$Product" "used" "I", Cond.methodLink RX6 115 yX3_raise, Cond.instanceMethod yX3_raise, Cond.selects RX3 yX3_raise yX3_raise]
def wsX11_folds_r11 : List Cond := [Cond.code yX3_raise cX3_raise 11 none, Cond.constantLong RX3 17 (4194304), Cond.constantLong RX3 19 (2147483647), Cond.methodLink RX6 118 yX3_order, Cond.instanceMethod yX3_order, Cond.selects RX3 yX3_order yX3_order, Cond.code yX3_order cX3_order 3 (some .int), Cond.methodLink RX1 216 yX7_copy, Cond.instanceMethod yX7_copy, Cond.selects RX7 yX7_copy yX7_copy, Cond.code yX7_copy cX7_copy 2 none, Cond.fieldLink RX7 52 "GainTrees$Split" "weight" "J", Cond.methodLink RX7 62 arraycopyName, Cond.native arraycopyName, Cond.static arraycopyName, Cond.initialized "java/lang/System", Cond.methodLink RX1 197 yX7_shift, Cond.instanceMethod yX7_shift, Cond.selects RX7 yX7_shift yX7_shift, Cond.code yX7_shift cX7_shift 2 none, Cond.methodLink RX1 176 yX1_tryValues, Cond.instanceMethod yX1_tryValues, Cond.selects RX1 yX1_tryValues yX1_tryValues, Cond.code yX1_tryValues cX1_tryValues 6 none]
def wsX11_folds_r12 : List Cond := [Cond.methodLink RX1 183 yX7_branch, Cond.instanceMethod yX7_branch, Cond.selects RX7 yX7_branch yX7_branch, Cond.code yX7_branch cX7_branch 4 (some .int), Cond.methodLink RX7 47 yX8_cell, Cond.methodLink RX1 108 yX1_chooseByRatio, Cond.instanceMethod yX1_chooseByRatio, Cond.selects RX1 yX1_chooseByRatio yX1_chooseByRatio, Cond.code yX1_chooseByRatio cX1_chooseByRatio 4 (some (.object "GainTrees$Split")), Cond.methodLink RX1 219 yX6_isUpToMean, Cond.instanceMethod yX6_isUpToMean, Cond.selects RX6 yX6_isUpToMean yX6_isUpToMean, Cond.code yX6_isUpToMean cX6_isUpToMean 6 (some .boolean), Cond.fieldLink RX6 80 "GainTrees$Split" "stands" "Z", Cond.methodLink RX1 223 yX6_orderOfRatios, Cond.instanceMethod yX6_orderOfRatios, Cond.selects RX6 yX6_orderOfRatios yX6_orderOfRatios, Cond.code yX6_orderOfRatios cX6_orderOfRatios 3 (some .int), Cond.methodLink RX6 84 yX6_gainOf, Cond.instanceMethod yX6_gainOf, Cond.selects RX6 yX6_gainOf yX6_gainOf, Cond.code yX6_gainOf cX6_gainOf 7 (some .long), Cond.methodLink RX6 88 yX6_widthOf, Cond.instanceMethod yX6_widthOf]
def wsX11_folds_r13 : List Cond := [Cond.selects RX6 yX6_widthOf yX6_widthOf, Cond.code yX6_widthOf cX6_widthOf 5 (some .long), Cond.methodLink RX1 112 yX1_chooseBest, Cond.instanceMethod yX1_chooseBest, Cond.selects RX1 yX1_chooseBest yX1_chooseBest, Cond.code yX1_chooseBest cX1_chooseBest 4 (some (.object "GainTrees$Split")), Cond.methodLink RX1 124 yX9_fork, Cond.instanceMethod yX9_fork, Cond.selects RX9 yX9_fork yX9_fork, Cond.code yX9_fork cX9_fork 5 none, Cond.methodLink RX1 127 yX1_part, Cond.instanceMethod yX1_part, Cond.selects RX1 yX1_part yX1_part, Cond.code yX1_part cX1_part 8 none, Cond.fieldLink RX1 227 "GainTrees$Split" "children" "I", Cond.fieldLink RX1 15 "GainTrees$Grower" "parted" "[I", Cond.methodLink RX1 131 yX9_finish, Cond.instanceMethod yX9_finish, Cond.selects RX9 yX9_finish yX9_finish, Cond.code yX9_finish cX9_finish 4 none, Cond.fieldLink RX9 43 "GainTrees$Tree" "after" "[I", Cond.methodLink RX11 271 yX9_decisionOn, Cond.instanceMethod yX9_decisionOn, Cond.selects RX9 yX9_decisionOn yX9_decisionOn]
def wsX11_folds_r14 : List Cond := [Cond.code yX9_decisionOn cX9_decisionOn 3 (some .int), Cond.methodLink RX9 77 yX9_leafOf, Cond.instanceMethod yX9_leafOf, Cond.selects RX9 yX9_leafOf yX9_leafOf, Cond.code yX9_leafOf cX9_leafOf 5 (some .int), Cond.methodLink RX9 73 yX9_childFor, Cond.instanceMethod yX9_childFor, Cond.selects RX9 yX9_childFor yX9_childFor, Cond.code yX9_childFor cX9_childFor 5 (some .int), Cond.methodLink RX9 64 yX8_cell, Cond.methodLink RX9 70 yX9_childOf, Cond.instanceMethod yX9_childOf, Cond.selects RX9 yX9_childOf yX9_childOf, Cond.code yX9_childOf cX9_childOf 5 (some .int), Cond.methodLink RX11 163 yX8_classOf]
def wsX11_folds : List Cond := .code yX11_folds cX11_folds 8 (some .int) :: ((wsX11_folds_r1 ++ (wsX11_folds_r2 ++ (wsX11_folds_r3 ++ (wsX11_folds_r4 ++ (wsX11_folds_r5 ++ (wsX11_folds_r6 ++ (wsX11_folds_r7 ++ (wsX11_folds_r8 ++ (wsX11_folds_r9 ++ (wsX11_folds_r10 ++ (wsX11_folds_r11 ++ (wsX11_folds_r12 ++ (wsX11_folds_r13 ++ wsX11_folds_r14))))))))))))) ++ wsX110 ++ wsX80 ++ wsX10 ++ wsX70 ++ wsX90 ++ wsX20 ++ wsX60 ++ wsX30 ++ (vx_atS RX11 270 "java/lang/IllegalArgumentException" ["java/lang/RuntimeException", "java/lang/Exception"]).filter goodWord ++ (vx_atS RX11 341 "java/lang/IllegalStateException" ["java/lang/RuntimeException", "java/lang/Exception"]).filter goodWord)
def wsX11_rules_r1 : List Cond := [Cond.fieldLink RX11 70 "GainTrees" "made" "LGainTrees$Rules;", Cond.fieldLink RX11 87 "GainTrees" "grown" "LGainTrees$Tree;", Cond.fieldLink RX11 40 "GainTrees" "training" "LGainTrees$Table;", Cond.fieldLink RX11 278 "GainTrees$Rules" "many" "I", Cond.methodLink RX11 202 yX11_needTree, Cond.instanceMethod yX11_needTree, Cond.selects RX11 yX11_needTree yX11_needTree, Cond.initialized RX11, Cond.code yX11_needTree cX11_needTree 1 none, Cond.classLink RX11 337 "java/lang/IllegalStateException", Cond.initialized "java/lang/IllegalStateException", Cond.fieldLink RX11 188 "GainTrees$Tree" "nodes" "I", Cond.methodLink RX11 274 yX5_make, Cond.instanceMethod yX5_make, Cond.selects RX5 yX5_make yX5_make, Cond.initialized RX5, Cond.code yX5_make cX5_make 4 none, Cond.fieldLink RX5 72 "GainTrees$Tree" "nodes" "I", Cond.fieldLink RX5 55 "GainTrees$Rules" "arrived" "[I", Cond.fieldLink RX5 77 "GainTrees$Table" "size" "I", Cond.fieldLink RX5 58 "GainTrees$Rules" "many" "I", Cond.fieldLink RX5 66 "GainTrees$Rules" "otherwise" "I", Cond.fieldLink RX5 62 "GainTrees$Rules" "stand" "Z", Cond.methodLink RX5 69 yX5_drop]
def wsX11_rules_r2 : List Cond := [Cond.instanceMethod yX5_drop, Cond.selects RX5 yX5_drop yX5_drop, Cond.code yX5_drop cX5_drop 1 none, Cond.methodLink RX5 81 yX9_leafOf, Cond.instanceMethod yX9_leafOf, Cond.selects RX9 yX9_leafOf yX9_leafOf, Cond.initialized RX9, Cond.code yX9_leafOf cX9_leafOf 5 (some .int), Cond.fieldLink RX9 28 "GainTrees$Tree" "kids" "[I", Cond.methodLink RX9 73 yX9_childFor, Cond.instanceMethod yX9_childFor, Cond.selects RX9 yX9_childFor yX9_childFor, Cond.code yX9_childFor cX9_childFor 5 (some .int), Cond.fieldLink RX9 9 "GainTrees$Tree" "attribute" "[I", Cond.fieldLink RX9 18 "GainTrees$Tree" "byCut" "[Z", Cond.fieldLink RX9 15 "GainTrees$Tree" "cut" "[I", Cond.methodLink RX9 64 yX8_cell, Cond.instanceMethod yX8_cell, Cond.selects RX8 yX8_cell yX8_cell, Cond.initialized RX8, Cond.code yX8_cell cX8_cell 3 (some .int), Cond.fieldLink RX8 15 "GainTrees$Table" "most" "I", Cond.fieldLink RX8 21 "GainTrees$Table" "cells" "[I", Cond.methodLink RX8 25 yX8_isColumn]
def wsX11_rules_r3 : List Cond := [Cond.static yX8_isColumn, Cond.code yX8_isColumn cX8_isColumn 1 (some .boolean), Cond.methodLink RX9 70 yX9_childOf, Cond.instanceMethod yX9_childOf, Cond.selects RX9 yX9_childOf yX9_childOf, Cond.code yX9_childOf cX9_childOf 5 (some .int), Cond.fieldLink RX9 52 "GainTrees$Tree" "nodes" "I", Cond.fieldLink RX9 43 "GainTrees$Tree" "after" "[I", Cond.methodLink RX5 85 yX5_addRule, Cond.instanceMethod yX5_addRule, Cond.selects RX5 yX5_addRule yX5_addRule, Cond.code yX5_addRule cX5_addRule 8 none, Cond.fieldLink RX5 21 "GainTrees$Rules" "start" "[I", Cond.fieldLink RX5 24 "GainTrees$Rules" "size" "[I", Cond.fieldLink RX5 96 "GainTrees$Tree" "depth" "[I", Cond.methodLink RX5 99 Lib.Math.min.name, Cond.static Lib.Math.min.name, Cond.initialized "java/lang/Math", Cond.code Lib.Math.min.name Lib.Math.min.code 2 (some .int), Cond.fieldLink RX5 30 "GainTrees$Rules" "result" "[I", Cond.fieldLink RX5 105 "GainTrees$Tree" "result" "[I", Cond.fieldLink RX5 106 "GainTrees$Tree" "parent" "[I", Cond.fieldLink RX5 109 "GainTrees$Tree" "place" "[I", Cond.methodLink RX5 112 yX5_setCondition]
def wsX11_rules_r4 : List Cond := [Cond.instanceMethod yX5_setCondition, Cond.selects RX5 yX5_setCondition yX5_setCondition, Cond.code yX5_setCondition cX5_setCondition 5 none, Cond.fieldLink RX5 11 "GainTrees$Rules" "attribute" "[I", Cond.fieldLink RX5 124 "GainTrees$Tree" "attribute" "[I", Cond.fieldLink RX5 125 "GainTrees$Tree" "byCut" "[Z", Cond.fieldLink RX5 15 "GainTrees$Rules" "sort" "[I", Cond.fieldLink RX5 18 "GainTrees$Rules" "bound" "[I", Cond.fieldLink RX5 128 "GainTrees$Tree" "cut" "[I", Cond.methodLink RX5 116 yX5_simplify, Cond.instanceMethod yX5_simplify, Cond.selects RX5 yX5_simplify yX5_simplify, Cond.code yX5_simplify cX5_simplify 5 none, Cond.methodLink RX5 138 yX5_countMisses, Cond.instanceMethod yX5_countMisses, Cond.selects RX5 yX5_countMisses yX5_countMisses, Cond.code yX5_countMisses cX5_countMisses 5 none, Cond.fieldLink RX5 33 "GainTrees$Rules" "covered" "[I", Cond.fieldLink RX5 36 "GainTrees$Rules" "right" "[I", Cond.fieldLink RX5 51 "GainTrees$Rules" "gone" "[Z", Cond.fieldLink RX5 39 "GainTrees$Rules" "misses" "[I", Cond.fieldLink RX5 42 "GainTrees$Rules" "missed" "[I", Cond.methodLink RX5 134 yX5_holds, Cond.instanceMethod yX5_holds]
def wsX11_rules_r5 : List Cond := [Cond.selects RX5 yX5_holds yX5_holds, Cond.code yX5_holds cX5_holds 5 (some .boolean), Cond.methodLink RX5 131 yX8_cell, Cond.methodLink RX5 156 yX8_classOf, Cond.instanceMethod yX8_classOf, Cond.selects RX8 yX8_classOf yX8_classOf, Cond.code yX8_classOf cX8_classOf 2 (some .int), Cond.methodLink RX8 29 yX8_cell, Cond.methodLink RX5 141 yX5_countWithout, Cond.instanceMethod yX5_countWithout, Cond.selects RX5 yX5_countWithout yX5_countWithout, Cond.code yX5_countWithout cX5_countWithout 5 none, Cond.fieldLink RX5 45 "GainTrees$Rules" "coveredWithout" "[I", Cond.fieldLink RX5 48 "GainTrees$Rules" "rightWithout" "[I", Cond.methodLink RX5 144 yX5_needless, Cond.instanceMethod yX5_needless, Cond.selects RX5 yX5_needless yX5_needless, Cond.code yX5_needless cX5_needless 7 (some .int), Cond.methodLink RX5 159 yX5_orderOfWorths, Cond.static yX5_orderOfWorths, Cond.code yX5_orderOfWorths cX5_orderOfWorths 4 (some .int), Cond.methodLink RX5 163 yJ6_compare_7cf53, Cond.static yJ6_compare_7cf53, Cond.initialized RJ6]
def wsX11_rules_r6 : List Cond := [Cond.code yJ6_compare_7cf53 cJ6_compare_7cf53 2 (some .int), Cond.methodLink RX5 148 yX5_release, Cond.instanceMethod yX5_release, Cond.selects RX5 yX5_release yX5_release, Cond.code yX5_release cX5_release 5 none, Cond.methodLink RX5 152 yX5_closeUp, Cond.instanceMethod yX5_closeUp, Cond.selects RX5 yX5_closeUp yX5_closeUp, Cond.code yX5_closeUp cX5_closeUp 4 none, Cond.methodLink RX5 120 yX5_isTold, Cond.instanceMethod yX5_isTold, Cond.selects RX5 yX5_isTold yX5_isTold, Cond.code yX5_isTold cX5_isTold 3 (some .boolean), Cond.methodLink RX5 168 yX5_hasSame, Cond.instanceMethod yX5_hasSame, Cond.selects RX5 yX5_hasSame yX5_hasSame, Cond.code yX5_hasSame cX5_hasSame 6 (some .boolean), Cond.methodLink RX5 89 yX5_rank, Cond.instanceMethod yX5_rank, Cond.selects RX5 yX5_rank yX5_rank, Cond.code yX5_rank cX5_rank 3 none, Cond.fieldLink RX5 27 "GainTrees$Rules" "ranked" "[I", Cond.methodLink RX5 172 yX5_isAhead, Cond.instanceMethod yX5_isAhead]
def wsX11_rules_r7 : List Cond := [Cond.selects RX5 yX5_isAhead yX5_isAhead, Cond.code yX5_isAhead cX5_isAhead 4 (some .boolean), Cond.methodLink RX5 92 yX5_commonestLeft, Cond.instanceMethod yX5_commonestLeft, Cond.selects RX5 yX5_commonestLeft yX5_commonestLeft, Cond.code yX5_commonestLeft cX5_commonestLeft 8 (some .int), Cond.arrayClass .int, Cond.methodLink RX5 178 yX5_firstFor, Cond.instanceMethod yX5_firstFor, Cond.selects RX5 yX5_firstFor yX5_firstFor, Cond.code yX5_firstFor cX5_firstFor 4 (some .int), Cond.methodLink RX5 175 yX5_covers, Cond.instanceMethod yX5_covers, Cond.selects RX5 yX5_covers yX5_covers, Cond.code yX5_covers cX5_covers 5 (some .boolean)]
def wsX11_rules : List Cond := .code yX11_rules cX11_rules 1 (some .int) :: ((wsX11_rules_r1 ++ (wsX11_rules_r2 ++ (wsX11_rules_r3 ++ (wsX11_rules_r4 ++ (wsX11_rules_r5 ++ (wsX11_rules_r6 ++ wsX11_rules_r7)))))) ++ wsX110 ++ wsX50 ++ wsX90 ++ wsX80 ++ (vx_atS RX11 341 "java/lang/IllegalStateException" ["java/lang/RuntimeException", "java/lang/Exception"]).filter goodWord)
def wsX11_rule : List Cond := .code yX11_rule cX11_rule 3 (some .int) :: ([.classLink RX11 156 "java/util/NoSuchElementException", .initialized "java/util/NoSuchElementException", .fieldLink RX11 70 "GainTrees" "made" "LGainTrees$Rules;", .fieldLink RX11 278 "GainTrees$Rules" "many" "I", .fieldLink RX11 283 "GainTrees$Rules" "ranked" "[I", .methodLink RX11 286 yX5_plain, .instanceMethod yX5_plain, .selects RX5 yX5_plain yX5_plain, .initialized RX5, .code yX5_plain cX5_plain 3 (some .int), .fieldLink RX5 30 "GainTrees$Rules" "result" "[I", .fieldLink RX5 24 "GainTrees$Rules" "size" "[I", .fieldLink RX5 33 "GainTrees$Rules" "covered" "[I", .fieldLink RX5 36 "GainTrees$Rules" "right" "[I"] ++ wsX110 ++ wsX50 ++ (vx_atS RX11 160 "java/util/NoSuchElementException" ["java/lang/RuntimeException", "java/lang/Exception"]).filter goodWord)
def wsX11_condition : List Cond := .code yX11_condition cX11_condition 6 (some .int) :: ([.classLink RX11 156 "java/util/NoSuchElementException", .initialized "java/util/NoSuchElementException", .fieldLink RX11 70 "GainTrees" "made" "LGainTrees$Rules;", .fieldLink RX11 278 "GainTrees$Rules" "many" "I", .fieldLink RX11 283 "GainTrees$Rules" "ranked" "[I", .fieldLink RX11 289 "GainTrees$Rules" "size" "[I", .fieldLink RX11 293 "GainTrees$Rules" "start" "[I", .fieldLink RX11 296 "GainTrees$Rules" "attribute" "[I", .fieldLink RX11 299 "GainTrees$Rules" "sort" "[I", .fieldLink RX11 302 "GainTrees$Rules" "bound" "[I"] ++ wsX110 ++ wsX50 ++ (vx_atS RX11 160 "java/util/NoSuchElementException" ["java/lang/RuntimeException", "java/lang/Exception"]).filter goodWord)
def wsX11_write_r1 : List Cond := [Cond.classLink RX11 266 "java/lang/IllegalArgumentException", Cond.initialized "java/lang/IllegalArgumentException", Cond.fieldLink RX11 33 "GainTrees" "writer" "LGainTrees$Writer;", Cond.fieldLink RX11 77 "GainTrees" "known" "LGainTrees$Names;", Cond.fieldLink RX11 87 "GainTrees" "grown" "LGainTrees$Tree;", Cond.fieldLink RX11 70 "GainTrees" "made" "LGainTrees$Rules;", Cond.fieldLink RX11 18 "GainTrees" "result" "LGainTrees$Bytes;", Cond.fieldLink RX11 314 "GainTrees$Bytes" "told" "I", Cond.methodLink RX11 256 yX11_needDecider, Cond.instanceMethod yX11_needDecider, Cond.selects RX11 yX11_needDecider yX11_needDecider, Cond.initialized RX11, Cond.code yX11_needDecider cX11_needDecider 2 none, Cond.classLink RX11 337 "java/lang/IllegalStateException", Cond.initialized "java/lang/IllegalStateException", Cond.fieldLink RX11 317 "GainTrees$Rules" "stand" "Z", Cond.methodLink RX11 202 yX11_needTree, Cond.instanceMethod yX11_needTree, Cond.selects RX11 yX11_needTree yX11_needTree, Cond.code yX11_needTree cX11_needTree 1 none, Cond.fieldLink RX11 188 "GainTrees$Tree" "nodes" "I", Cond.methodLink RX11 307 yX10_writeTree, Cond.instanceMethod yX10_writeTree, Cond.selects RX10 yX10_writeTree yX10_writeTree]
def wsX11_write_r2 : List Cond := [Cond.initialized RX10, Cond.code yX10_writeTree cX10_writeTree 4 none, Cond.fieldLink RX10 9 "GainTrees$Writer" "result" "LGainTrees$Bytes;", Cond.fieldLink RX10 60 "GainTrees$Tree" "nodes" "I", Cond.fieldLink RX10 69 "GainTrees$Tree" "kids" "[I", Cond.fieldLink RX10 79 "GainTrees$Tree" "result" "[I", Cond.fieldLink RX10 91 "GainTrees$Tree" "attribute" "[I", Cond.fieldLink RX10 97 "GainTrees$Tree" "byCut" "[Z", Cond.fieldLink RX10 105 "GainTrees$Tree" "cut" "[I", Cond.methodLink RX10 57 yX0_shorten, Cond.instanceMethod yX0_shorten, Cond.selects RX0 yX0_shorten yX0_shorten, Cond.initialized RX0, Cond.code yX0_shorten cX0_shorten 2 none, Cond.fieldLink RX0 21 "GainTrees$Bytes" "kept" "I", Cond.fieldLink RX0 25 "GainTrees$Bytes" "told" "I", Cond.methodLink RX10 65 yX10_writeLabel, Cond.instanceMethod yX10_writeLabel, Cond.selects RX10 yX10_writeLabel yX10_writeLabel, Cond.code yX10_writeLabel cX10_writeLabel 5 none, Cond.fieldLink RX10 111 "GainTrees$Tree" "parent" "[I", Cond.fieldLink RX10 114 "GainTrees$Tree" "place" "[I", Cond.methodLink RX10 117 yX2_valueSlot, Cond.static yX2_valueSlot]
def wsX11_write_r3 : List Cond := [Cond.initialized RX2, Cond.code yX2_valueSlot cX2_valueSlot 2 (some .int), Cond.methodLink RX10 81 yX10_nameIn, Cond.instanceMethod yX10_nameIn, Cond.selects RX10 yX10_nameIn yX10_nameIn, Cond.code yX10_nameIn cX10_nameIn 4 none, Cond.methodLink RX10 25 yX10_gap, Cond.instanceMethod yX10_gap, Cond.selects RX10 yX10_gap yX10_gap, Cond.code yX10_gap cX10_gap 1 none, Cond.fieldLink RX10 15 "GainTrees$Bytes" "told" "I", Cond.methodLink RX10 21 yX0_add, Cond.instanceMethod yX0_add, Cond.selects RX0 yX0_add yX0_add, Cond.code yX0_add cX0_add 2 none, Cond.fieldLink RX0 15 "GainTrees$Bytes" "data" "[B", Cond.methodLink RX10 38 yX2_lengthOf, Cond.instanceMethod yX2_lengthOf, Cond.selects RX2 yX2_lengthOf yX2_lengthOf, Cond.code yX2_lengthOf cX2_lengthOf 2 (some .int), Cond.fieldLink RX2 15 "GainTrees$Names" "lengths" "[I", Cond.methodLink RX10 44 yX2_letterOf, Cond.instanceMethod yX2_letterOf, Cond.selects RX2 yX2_letterOf yX2_letterOf]
def wsX11_write_r4 : List Cond := [Cond.code yX2_letterOf cX2_letterOf 3 (some .int), Cond.fieldLink RX2 11 "GainTrees$Names" "letters" "[B", Cond.methodLink RX10 75 yX10_word, Cond.instanceMethod yX10_word, Cond.selects RX10 yX10_word yX10_word, Cond.code yX10_word cX10_word 3 none, Cond.methodLink RX10 28 yJ0_length_8abf5, Cond.instanceMethod yJ0_length_8abf5, Cond.selects RJ0 yJ0_length_8abf5 yJ0_length_8abf5, Cond.initialized RJ0, Cond.code yJ0_length_8abf5 cJ0_length_8abf5 1 (some .int), Cond.fieldLink RJ0 9 "java/lang/String" "value" "[B", Cond.methodLink RJ0 335 yJ0_coder_7d493, Cond.instanceMethod yJ0_coder_7d493, Cond.selects RJ0 yJ0_coder_7d493 yJ0_coder_7d493, Cond.code yJ0_coder_7d493 cJ0_coder_7d493 1 (some .byte), Cond.fieldLink RJ0 38 "java/lang/String" "COMPACT_STRINGS" "Z", Cond.fieldLink RJ0 15 "java/lang/String" "coder" "B", Cond.methodLink RX10 34 yJ0_charAt_5068e, Cond.instanceMethod yJ0_charAt_5068e, Cond.selects RJ0 yJ0_charAt_5068e yJ0_charAt_5068e, Cond.code yJ0_charAt_5068e cJ0_charAt_5068e 2 (some .char), Cond.methodLink RJ0 492 yJ0_isLatin1_aae02, Cond.instanceMethod yJ0_isLatin1_aae02]
def wsX11_write_r5 : List Cond := [Cond.selects RJ0 yJ0_isLatin1_aae02 yJ0_isLatin1_aae02, Cond.code yJ0_isLatin1_aae02 cJ0_isLatin1_aae02 1 (some .boolean), Cond.methodLink RJ0 495 yJ1_charAt_3b067, Cond.static yJ1_charAt_3b067, Cond.initialized RJ1, Cond.code yJ1_charAt_3b067 cJ1_charAt_3b067 2 (some .char), Cond.methodLink RJ1 9 yJ0_checkIndex_df160, Cond.static yJ0_checkIndex_df160, Cond.code yJ0_checkIndex_df160 cJ0_checkIndex_df160 2 none, Cond.fieldLink RJ0 1053 "jdk/internal/util/Preconditions" "SIOOBE_FORMATTER" "Ljava/util/function/BiFunction;", Cond.methodLink RJ0 1059 yJ3_checkIndex_8e157, Cond.static yJ3_checkIndex_8e157, Cond.initialized RJ3, Cond.code yJ3_checkIndex_8e157 cJ3_checkIndex_8e157 3 (some .int), Cond.methodLink RJ0 498 yJ2_charAt_3b067, Cond.static yJ2_charAt_3b067, Cond.initialized RJ2, Cond.code yJ2_charAt_3b067 cJ2_charAt_3b067 2 (some .char), Cond.methodLink RJ2 67 yJ2_checkIndex_2214a, Cond.static yJ2_checkIndex_2214a, Cond.code yJ2_checkIndex_2214a cJ2_checkIndex_2214a 2 none, Cond.methodLink RJ2 48 yJ2_length_9d52b, Cond.static yJ2_length_9d52b, Cond.code yJ2_length_9d52b cJ2_length_9d52b 1 (some .int)]
def wsX11_write_r6 : List Cond := [Cond.methodLink RJ2 414 yJ0_checkIndex_df160, Cond.methodLink RJ2 71 yJ2_getChar_3b067, Cond.static yJ2_getChar_3b067, Cond.code yJ2_getChar_3b067 cJ2_getChar_3b067 2 (some .char), Cond.fieldLink RJ2 44 "java/lang/StringUTF16" "$assertionsDisabled" "Z", Cond.fieldLink RJ2 59 "java/lang/StringUTF16" "HI_BYTE_SHIFT" "I", Cond.fieldLink RJ2 63 "java/lang/StringUTF16" "LO_BYTE_SHIFT" "I", Cond.methodLink RX10 85 yX10_closeForks, Cond.instanceMethod yX10_closeForks, Cond.selects RX10 yX10_closeForks yX10_closeForks, Cond.code yX10_closeForks cX10_closeForks 6 none, Cond.methodLink RX10 94 yX2_attributeSlot, Cond.static yX2_attributeSlot, Cond.code yX2_attributeSlot cX2_attributeSlot 1 (some .int), Cond.methodLink RX10 108 yX10_number, Cond.instanceMethod yX10_number, Cond.selects RX10 yX10_number yX10_number, Cond.code yX10_number cX10_number 5 none, Cond.methodLink RX10 48 Lib.Math.abs.name, Cond.static Lib.Math.abs.name, Cond.initialized "java/lang/Math", Cond.code Lib.Math.abs.name Lib.Math.abs.code 1 (some .int), Cond.methodLink RX10 53 yX10_whole, Cond.instanceMethod yX10_whole]
def wsX11_write_r7 : List Cond := [Cond.selects RX10 yX10_whole yX10_whole, Cond.code yX10_whole cX10_whole 5 none, Cond.constant RX10 56 (1000000000), Cond.methodLink RX11 310 yX10_writeRules, Cond.instanceMethod yX10_writeRules, Cond.selects RX10 yX10_writeRules yX10_writeRules, Cond.code yX10_writeRules cX10_writeRules 6 none, Cond.fieldLink RX10 124 "GainTrees$Rules" "many" "I", Cond.fieldLink RX10 129 "GainTrees$Rules" "ranked" "[I", Cond.fieldLink RX10 132 "GainTrees$Rules" "size" "[I", Cond.fieldLink RX10 139 "GainTrees$Rules" "start" "[I", Cond.fieldLink RX10 151 "GainTrees$Rules" "otherwise" "I", Cond.methodLink RX10 142 yX10_writeCondition, Cond.instanceMethod yX10_writeCondition, Cond.selects RX10 yX10_writeCondition yX10_writeCondition, Cond.code yX10_writeCondition cX10_writeCondition 5 none, Cond.fieldLink RX10 154 "GainTrees$Rules" "attribute" "[I", Cond.fieldLink RX10 155 "GainTrees$Rules" "sort" "[I", Cond.fieldLink RX10 160 "GainTrees$Rules" "bound" "[I", Cond.methodLink RX10 148 yX5_plain, Cond.instanceMethod yX5_plain, Cond.selects RX5 yX5_plain yX5_plain, Cond.initialized RX5, Cond.code yX5_plain cX5_plain 3 (some .int)]
def wsX11_write_r8 : List Cond := [Cond.fieldLink RX5 30 "GainTrees$Rules" "result" "[I", Cond.fieldLink RX5 24 "GainTrees$Rules" "size" "[I", Cond.fieldLink RX5 33 "GainTrees$Rules" "covered" "[I", Cond.fieldLink RX5 36 "GainTrees$Rules" "right" "[I"]
def wsX11_write : List Cond := .code yX11_write cX11_write 2 (some .int) :: ((wsX11_write_r1 ++ (wsX11_write_r2 ++ (wsX11_write_r3 ++ (wsX11_write_r4 ++ (wsX11_write_r5 ++ (wsX11_write_r6 ++ (wsX11_write_r7 ++ wsX11_write_r8))))))) ++ wsX110 ++ wsX00 ++ wsX50 ++ wsX90 ++ wsX100 ++ wsX20 ++ (vx_atS RX11 270 "java/lang/IllegalArgumentException" ["java/lang/RuntimeException", "java/lang/Exception"]).filter goodWord ++ (vx_atS RX11 341 "java/lang/IllegalStateException" ["java/lang/RuntimeException", "java/lang/Exception"]).filter goodWord)
def wsX11_letter : List Cond := .code yX11_letter cX11_letter 2 (some .int) :: ([.fieldLink RX11 18 "GainTrees" "result" "LGainTrees$Bytes;", .methodLink RX11 116 yX0_at, .instanceMethod yX0_at, .selects RX0 yX0_at yX0_at, .initialized RX0, .code yX0_at cX0_at 2 (some .int), .fieldLink RX0 21 "GainTrees$Bytes" "kept" "I", .fieldLink RX0 15 "GainTrees$Bytes" "data" "[B"] ++ wsX110 ++ wsX00)
def wsX11_count_r1 : List Cond := [Cond.fieldLink RX11 77 "GainTrees" "known" "LGainTrees$Names;", Cond.fieldLink RX11 219 "GainTrees$Names" "classes" "I", Cond.fieldLink RX11 133 "GainTrees$Names" "attributes" "I", Cond.fieldLink RX11 40 "GainTrees" "training" "LGainTrees$Table;", Cond.fieldLink RX11 124 "GainTrees$Table" "size" "I", Cond.fieldLink RX11 44 "GainTrees" "holdout" "LGainTrees$Table;", Cond.fieldLink RX11 87 "GainTrees" "grown" "LGainTrees$Tree;", Cond.fieldLink RX11 188 "GainTrees$Tree" "nodes" "I", Cond.fieldLink RX11 70 "GainTrees" "made" "LGainTrees$Rules;", Cond.fieldLink RX11 278 "GainTrees$Rules" "many" "I", Cond.fieldLink RX11 317 "GainTrees$Rules" "stand" "Z", Cond.fieldLink RX11 321 "GainTrees$Rules" "otherwise" "I", Cond.fieldLink RX11 14 "GainTrees" "tape" "LGainTrees$Bytes;", Cond.fieldLink RX11 103 "GainTrees$Bytes" "kept" "I", Cond.fieldLink RX11 18 "GainTrees" "result" "LGainTrees$Bytes;", Cond.methodLink RX11 324 yX9_leaves, Cond.instanceMethod yX9_leaves, Cond.selects RX9 yX9_leaves yX9_leaves, Cond.initialized RX9, Cond.code yX9_leaves cX9_leaves 3 (some .int), Cond.fieldLink RX9 52 "GainTrees$Tree" "nodes" "I", Cond.fieldLink RX9 28 "GainTrees$Tree" "kids" "[I", Cond.methodLink RX11 328 yX2_valuesOf, Cond.instanceMethod yX2_valuesOf]
def wsX11_count_r2 : List Cond := [Cond.selects RX2 yX2_valuesOf yX2_valuesOf, Cond.initialized RX2, Cond.code yX2_valuesOf cX2_valuesOf 2 (some .int), Cond.fieldLink RX2 26 "GainTrees$Names" "attributes" "I", Cond.fieldLink RX2 19 "GainTrees$Names" "values" "[I"]
def wsX11_count : List Cond := .code yX11_count cX11_count 2 (some .int) :: ((wsX11_count_r1 ++ wsX11_count_r2) ++ wsX110 ++ wsX20 ++ wsX80 ++ wsX90 ++ wsX50 ++ wsX00)
def wsJ9_abs_0f7a4 : List Cond := .code yJ9_abs_0f7a4 cJ9_abs_0f7a4 1 (some .int) :: ([])
def wsJ9_max_7cf53 : List Cond := .code yJ9_max_7cf53 cJ9_max_7cf53 2 (some .int) :: ([])
def wsJ9_min_7cf53 : List Cond := .code yJ9_min_7cf53 cJ9_min_7cf53 2 (some .int) :: ([])
theorem dX0_init_0 : decode cX0_init 0 = .ok (.aload_n 0, 1) := by decide +kernel
theorem dX0_init_1 : decode cX0_init 1 = .ok (.invokespecial 3, 3) := by decide +kernel
theorem dX0_init_4 : decode cX0_init 4 = .ok (.aload_n 0, 1) := by decide +kernel
theorem dX0_init_5 : decode cX0_init 5 = .ok (.iload_n 1, 1) := by decide +kernel
theorem dX0_init_6 : decode cX0_init 6 = .ok (.iconst 0, 1) := by decide +kernel
theorem dX0_init_7 : decode cX0_init 7 = .ok (.invokestatic 9, 3) := by decide +kernel
theorem dX0_init_10 : decode cX0_init 10 = .ok (.newarray .byte, 2) := by decide +kernel
theorem dX0_init_12 : decode cX0_init 12 = .ok (.putfield 15, 3) := by decide +kernel
theorem dX0_init_15 : decode cX0_init 15 = .ok (.return_, 1) := by decide +kernel
theorem dX0_shorten_0 : decode cX0_shorten 0 = .ok (.iload_n 1, 1) := by decide +kernel
theorem dX0_shorten_1 : decode cX0_shorten 1 = .ok (.ifCond .lt 21, 3) := by decide +kernel
theorem dX0_shorten_4 : decode cX0_shorten 4 = .ok (.iload_n 1, 1) := by decide +kernel
theorem dX0_shorten_5 : decode cX0_shorten 5 = .ok (.aload_n 0, 1) := by decide +kernel
theorem dX0_shorten_6 : decode cX0_shorten 6 = .ok (.getfield 21, 3) := by decide +kernel
theorem dX0_shorten_9 : decode cX0_shorten 9 = .ok (.if_icmp .gt 13, 3) := by decide +kernel
theorem dX0_shorten_12 : decode cX0_shorten 12 = .ok (.aload_n 0, 1) := by decide +kernel
theorem dX0_shorten_13 : decode cX0_shorten 13 = .ok (.iload_n 1, 1) := by decide +kernel
theorem dX0_shorten_14 : decode cX0_shorten 14 = .ok (.putfield 21, 3) := by decide +kernel
theorem dX0_shorten_17 : decode cX0_shorten 17 = .ok (.aload_n 0, 1) := by decide +kernel
theorem dX0_shorten_18 : decode cX0_shorten 18 = .ok (.iload_n 1, 1) := by decide +kernel
theorem dX0_shorten_19 : decode cX0_shorten 19 = .ok (.putfield 25, 3) := by decide +kernel
theorem dX0_shorten_22 : decode cX0_shorten 22 = .ok (.return_, 1) := by decide +kernel
theorem dX0_add_0 : decode cX0_add 0 = .ok (.aload_n 0, 1) := by decide +kernel
theorem dX0_add_1 : decode cX0_add 1 = .ok (.getfield 21, 3) := by decide +kernel
theorem dX0_add_4 : decode cX0_add 4 = .ok (.aload_n 0, 1) := by decide +kernel
theorem dX0_add_5 : decode cX0_add 5 = .ok (.getfield 15, 3) := by decide +kernel
theorem dX0_add_8 : decode cX0_add 8 = .ok (.arraylength, 1) := by decide +kernel
theorem dX0_add_9 : decode cX0_add 9 = .ok (.if_icmp .ge 24, 3) := by decide +kernel
theorem dX0_add_12 : decode cX0_add 12 = .ok (.aload_n 0, 1) := by decide +kernel
theorem dX0_add_13 : decode cX0_add 13 = .ok (.getfield 15, 3) := by decide +kernel
theorem dX0_add_16 : decode cX0_add 16 = .ok (.aload_n 0, 1) := by decide +kernel
theorem dX0_add_17 : decode cX0_add 17 = .ok (.getfield 21, 3) := by decide +kernel
theorem dX0_add_20 : decode cX0_add 20 = .ok (.iload_n 1, 1) := by decide +kernel
theorem dX0_add_21 : decode cX0_add 21 = .ok (.i2b, 1) := by decide +kernel
theorem dX0_add_22 : decode cX0_add 22 = .ok (.bastore, 1) := by decide +kernel
theorem dX0_add_23 : decode cX0_add 23 = .ok (.aload_n 0, 1) := by decide +kernel
theorem dX0_add_24 : decode cX0_add 24 = .ok (.dup, 1) := by decide +kernel
theorem dX0_add_25 : decode cX0_add 25 = .ok (.getfield 21, 3) := by decide +kernel
theorem dX0_add_28 : decode cX0_add 28 = .ok (.iconst 1, 1) := by decide +kernel
theorem dX0_add_29 : decode cX0_add 29 = .ok (.iadd, 1) := by decide +kernel
theorem dX0_add_30 : decode cX0_add 30 = .ok (.putfield 21, 3) := by decide +kernel
theorem dX0_add_33 : decode cX0_add 33 = .ok (.aload_n 0, 1) := by decide +kernel
theorem dX0_add_34 : decode cX0_add 34 = .ok (.dup, 1) := by decide +kernel
theorem dX0_add_35 : decode cX0_add 35 = .ok (.getfield 25, 3) := by decide +kernel
theorem dX0_add_38 : decode cX0_add 38 = .ok (.iconst 1, 1) := by decide +kernel
theorem dX0_add_39 : decode cX0_add 39 = .ok (.iadd, 1) := by decide +kernel
theorem dX0_add_40 : decode cX0_add 40 = .ok (.putfield 25, 3) := by decide +kernel
theorem dX0_add_43 : decode cX0_add 43 = .ok (.return_, 1) := by decide +kernel
theorem dX0_at_0 : decode cX0_at 0 = .ok (.iload_n 1, 1) := by decide +kernel
theorem dX0_at_1 : decode cX0_at 1 = .ok (.ifCond .lt 24, 3) := by decide +kernel
theorem dX0_at_4 : decode cX0_at 4 = .ok (.iload_n 1, 1) := by decide +kernel
theorem dX0_at_5 : decode cX0_at 5 = .ok (.aload_n 0, 1) := by decide +kernel
theorem dX0_at_6 : decode cX0_at 6 = .ok (.getfield 21, 3) := by decide +kernel
theorem dX0_at_9 : decode cX0_at 9 = .ok (.if_icmp .ge 16, 3) := by decide +kernel
theorem dX0_at_12 : decode cX0_at 12 = .ok (.aload_n 0, 1) := by decide +kernel
theorem dX0_at_13 : decode cX0_at 13 = .ok (.getfield 15, 3) := by decide +kernel
theorem dX0_at_16 : decode cX0_at 16 = .ok (.iload_n 1, 1) := by decide +kernel
theorem dX0_at_17 : decode cX0_at 17 = .ok (.baload, 1) := by decide +kernel
theorem dX0_at_18 : decode cX0_at 18 = .ok (.sipush 255, 3) := by decide +kernel
theorem dX0_at_21 : decode cX0_at 21 = .ok (.iand, 1) := by decide +kernel
theorem dX0_at_22 : decode cX0_at 22 = .ok (.goto 4, 3) := by decide +kernel
theorem dX0_at_25 : decode cX0_at 25 = .ok (.iconst (-1), 1) := by decide +kernel
theorem dX0_at_26 : decode cX0_at 26 = .ok (.ireturn, 1) := by decide +kernel
set_option maxRecDepth 20000 in
theorem ggX1_init_X7_init : GoodIn wsX1_init wsX7_init := goodIn_r _ [23, 24, 2, 3, 4, 25, 26, 46, 47, 48, 49, 50, 51, 52, 53, 54, 55, 56] (by decide +kernel) (by decide +kernel)
set_option maxRecDepth 20000 in
theorem gX1_init_X7_init_n38 : GoodIn wsX1_init (wsX7_init) := ggX1_init_X7_init
theorem dX1_init_0 : decode cX1_init 0 = .ok (.aload_n 0, 1) := by decide +kernel
theorem dX1_init_1 : decode cX1_init 1 = .ok (.invokespecial 3, 3) := by decide +kernel
theorem dX1_init_4 : decode cX1_init 4 = .ok (.aload_n 0, 1) := by decide +kernel
theorem dX1_init_5 : decode cX1_init 5 = .ok (.sipush 200, 3) := by decide +kernel
theorem dX1_init_8 : decode cX1_init 8 = .ok (.newarray .int, 2) := by decide +kernel
theorem dX1_init_10 : decode cX1_init 10 = .ok (.putfield 9, 3) := by decide +kernel
theorem dX1_init_13 : decode cX1_init 13 = .ok (.aload_n 0, 1) := by decide +kernel
theorem dX1_init_14 : decode cX1_init 14 = .ok (.sipush 200, 3) := by decide +kernel
theorem dX1_init_17 : decode cX1_init 17 = .ok (.newarray .int, 2) := by decide +kernel
theorem dX1_init_19 : decode cX1_init 19 = .ok (.putfield 15, 3) := by decide +kernel
theorem dX1_init_22 : decode cX1_init 22 = .ok (.aload_n 0, 1) := by decide +kernel
theorem dX1_init_23 : decode cX1_init 23 = .ok (.sipush 1600, 3) := by decide +kernel
theorem dX1_init_26 : decode cX1_init 26 = .ok (.newarray .int, 2) := by decide +kernel
theorem dX1_init_28 : decode cX1_init 28 = .ok (.putfield 18, 3) := by decide +kernel
theorem dX1_init_31 : decode cX1_init 31 = .ok (.aload_n 0, 1) := by decide +kernel
theorem dX1_init_32 : decode cX1_init 32 = .ok (.sipush 200, 3) := by decide +kernel
theorem dX1_init_35 : decode cX1_init 35 = .ok (.newarray .int, 2) := by decide +kernel
theorem dX1_init_37 : decode cX1_init 37 = .ok (.putfield 21, 3) := by decide +kernel
theorem dX1_init_40 : decode cX1_init 40 = .ok (.aload_n 0, 1) := by decide +kernel
theorem dX1_init_41 : decode cX1_init 41 = .ok (.sipush 512, 3) := by decide +kernel
theorem dX1_init_44 : decode cX1_init 44 = .ok (.newarray .int, 2) := by decide +kernel
theorem dX1_init_46 : decode cX1_init 46 = .ok (.putfield 24, 3) := by decide +kernel
theorem dX1_init_49 : decode cX1_init 49 = .ok (.aload_n 0, 1) := by decide +kernel
theorem dX1_init_50 : decode cX1_init 50 = .ok (.sipush 512, 3) := by decide +kernel
theorem dX1_init_53 : decode cX1_init 53 = .ok (.newarray .int, 2) := by decide +kernel
theorem dX1_init_55 : decode cX1_init 55 = .ok (.putfield 27, 3) := by decide +kernel
theorem dX1_init_58 : decode cX1_init 58 = .ok (.aload_n 0, 1) := by decide +kernel
theorem dX1_init_59 : decode cX1_init 59 = .ok (.sipush 512, 3) := by decide +kernel
theorem dX1_init_62 : decode cX1_init 62 = .ok (.newarray .int, 2) := by decide +kernel
theorem dX1_init_64 : decode cX1_init 64 = .ok (.putfield 30, 3) := by decide +kernel
theorem dX1_init_67 : decode cX1_init 67 = .ok (.aload_n 0, 1) := by decide +kernel
theorem dX1_init_68 : decode cX1_init 68 = .ok (.sipush 512, 3) := by decide +kernel
theorem dX1_init_71 : decode cX1_init 71 = .ok (.newarray .int, 2) := by decide +kernel
theorem dX1_init_73 : decode cX1_init 73 = .ok (.putfield 33, 3) := by decide +kernel
theorem dX1_init_76 : decode cX1_init 76 = .ok (.aload_n 0, 1) := by decide +kernel
theorem dX1_init_77 : decode cX1_init 77 = .ok (.new 36, 3) := by decide +kernel
theorem dX1_init_80 : decode cX1_init 80 = .ok (.dup, 1) := by decide +kernel
theorem dX1_init_81 : decode cX1_init 81 = .ok (.invokespecial 38, 3) := by decide +kernel
theorem dX1_init_84 : decode cX1_init 84 = .ok (.putfield 39, 3) := by decide +kernel
theorem dX1_init_87 : decode cX1_init 87 = .ok (.aload_n 0, 1) := by decide +kernel
theorem dX1_init_88 : decode cX1_init 88 = .ok (.bipush 8, 2) := by decide +kernel
theorem dX1_init_90 : decode cX1_init 90 = .ok (.anewarray 36, 3) := by decide +kernel
theorem dX1_init_93 : decode cX1_init 93 = .ok (.putfield 43, 3) := by decide +kernel
theorem dX1_init_96 : decode cX1_init 96 = .ok (.aload_n 0, 1) := by decide +kernel
theorem dX1_init_97 : decode cX1_init 97 = .ok (.aload_n 1, 1) := by decide +kernel
theorem dX1_init_98 : decode cX1_init 98 = .ok (.putfield 47, 3) := by decide +kernel
theorem dX1_init_101 : decode cX1_init 101 = .ok (.aload_n 0, 1) := by decide +kernel
theorem dX1_init_102 : decode cX1_init 102 = .ok (.aload_n 2, 1) := by decide +kernel
theorem dX1_init_103 : decode cX1_init 103 = .ok (.putfield 51, 3) := by decide +kernel
theorem dX1_init_106 : decode cX1_init 106 = .ok (.aload_n 0, 1) := by decide +kernel
theorem dX1_init_107 : decode cX1_init 107 = .ok (.aload_n 3, 1) := by decide +kernel
theorem dX1_init_108 : decode cX1_init 108 = .ok (.putfield 55, 3) := by decide +kernel
theorem dX1_init_111 : decode cX1_init 111 = .ok (.aload_n 0, 1) := by decide +kernel
theorem dX1_init_112 : decode cX1_init 112 = .ok (.aload 4, 2) := by decide +kernel
theorem dX1_init_114 : decode cX1_init 114 = .ok (.putfield 59, 3) := by decide +kernel
theorem dX1_init_117 : decode cX1_init 117 = .ok (.iconst 0, 1) := by decide +kernel
theorem dX1_init_118 : decode cX1_init 118 = .ok (.istore 5, 2) := by decide +kernel
theorem dX1_init_120 : decode cX1_init 120 = .ok (.iload 5, 2) := by decide +kernel
theorem dX1_init_122 : decode cX1_init 122 = .ok (.bipush 8, 2) := by decide +kernel
theorem dX1_init_124 : decode cX1_init 124 = .ok (.if_icmp .ge 23, 3) := by decide +kernel
theorem dX1_init_127 : decode cX1_init 127 = .ok (.aload_n 0, 1) := by decide +kernel
theorem dX1_init_128 : decode cX1_init 128 = .ok (.getfield 43, 3) := by decide +kernel
theorem dX1_init_131 : decode cX1_init 131 = .ok (.iload 5, 2) := by decide +kernel
theorem dX1_init_133 : decode cX1_init 133 = .ok (.new 36, 3) := by decide +kernel
theorem dX1_init_136 : decode cX1_init 136 = .ok (.dup, 1) := by decide +kernel
theorem dX1_init_137 : decode cX1_init 137 = .ok (.invokespecial 38, 3) := by decide +kernel
theorem dX1_init_140 : decode cX1_init 140 = .ok (.aastore, 1) := by decide +kernel
theorem dX1_init_141 : decode cX1_init 141 = .ok (.iinc 5 1, 3) := by decide +kernel
theorem dX1_init_144 : decode cX1_init 144 = .ok (.goto (-24), 3) := by decide +kernel
theorem dX1_init_147 : decode cX1_init 147 = .ok (.return_, 1) := by decide +kernel
theorem dX2_init_0 : decode cX2_init 0 = .ok (.aload_n 0, 1) := by decide +kernel
theorem dX2_init_1 : decode cX2_init 1 = .ok (.invokespecial 5, 3) := by decide +kernel
theorem dX2_init_4 : decode cX2_init 4 = .ok (.aload_n 0, 1) := by decide +kernel
theorem dX2_init_5 : decode cX2_init 5 = .ok (.sipush 936, 3) := by decide +kernel
theorem dX2_init_8 : decode cX2_init 8 = .ok (.newarray .byte, 2) := by decide +kernel
theorem dX2_init_10 : decode cX2_init 10 = .ok (.putfield 11, 3) := by decide +kernel
theorem dX2_init_13 : decode cX2_init 13 = .ok (.aload_n 0, 1) := by decide +kernel
theorem dX2_init_14 : decode cX2_init 14 = .ok (.bipush 78, 2) := by decide +kernel
theorem dX2_init_16 : decode cX2_init 16 = .ok (.newarray .int, 2) := by decide +kernel
theorem dX2_init_18 : decode cX2_init 18 = .ok (.putfield 15, 3) := by decide +kernel
theorem dX2_init_21 : decode cX2_init 21 = .ok (.aload_n 0, 1) := by decide +kernel
theorem dX2_init_22 : decode cX2_init 22 = .ok (.bipush 8, 2) := by decide +kernel
theorem dX2_init_24 : decode cX2_init 24 = .ok (.newarray .int, 2) := by decide +kernel
theorem dX2_init_26 : decode cX2_init 26 = .ok (.putfield 19, 3) := by decide +kernel
theorem dX2_init_29 : decode cX2_init 29 = .ok (.return_, 1) := by decide +kernel
theorem dX2_wipe_0 : decode cX2_wipe 0 = .ok (.aload_n 0, 1) := by decide +kernel
theorem dX2_wipe_1 : decode cX2_wipe 1 = .ok (.iconst 0, 1) := by decide +kernel
theorem dX2_wipe_2 : decode cX2_wipe 2 = .ok (.putfield 22, 3) := by decide +kernel
theorem dX2_wipe_5 : decode cX2_wipe 5 = .ok (.aload_n 0, 1) := by decide +kernel
theorem dX2_wipe_6 : decode cX2_wipe 6 = .ok (.iconst 0, 1) := by decide +kernel
theorem dX2_wipe_7 : decode cX2_wipe 7 = .ok (.putfield 26, 3) := by decide +kernel
theorem dX2_wipe_10 : decode cX2_wipe 10 = .ok (.return_, 1) := by decide +kernel
theorem dX2_valuesOf_0 : decode cX2_valuesOf 0 = .ok (.iload_n 1, 1) := by decide +kernel
theorem dX2_valuesOf_1 : decode cX2_valuesOf 1 = .ok (.ifCond .lt 20, 3) := by decide +kernel
theorem dX2_valuesOf_4 : decode cX2_valuesOf 4 = .ok (.iload_n 1, 1) := by decide +kernel
theorem dX2_valuesOf_5 : decode cX2_valuesOf 5 = .ok (.aload_n 0, 1) := by decide +kernel
theorem dX2_valuesOf_6 : decode cX2_valuesOf 6 = .ok (.getfield 26, 3) := by decide +kernel
theorem dX2_valuesOf_9 : decode cX2_valuesOf 9 = .ok (.if_icmp .ge 12, 3) := by decide +kernel
theorem dX2_valuesOf_12 : decode cX2_valuesOf 12 = .ok (.aload_n 0, 1) := by decide +kernel
theorem dX2_valuesOf_13 : decode cX2_valuesOf 13 = .ok (.getfield 19, 3) := by decide +kernel
theorem dX2_valuesOf_16 : decode cX2_valuesOf 16 = .ok (.iload_n 1, 1) := by decide +kernel
theorem dX2_valuesOf_17 : decode cX2_valuesOf 17 = .ok (.iaload, 1) := by decide +kernel
theorem dX2_valuesOf_18 : decode cX2_valuesOf 18 = .ok (.goto 4, 3) := by decide +kernel
theorem dX2_valuesOf_21 : decode cX2_valuesOf 21 = .ok (.iconst (-1), 1) := by decide +kernel
theorem dX2_valuesOf_22 : decode cX2_valuesOf 22 = .ok (.ireturn, 1) := by decide +kernel
theorem dX3_init_0 : decode cX3_init 0 = .ok (.aload_n 0, 1) := by decide +kernel
theorem dX3_init_1 : decode cX3_init 1 = .ok (.invokespecial 3, 3) := by decide +kernel
theorem dX3_init_4 : decode cX3_init 4 = .ok (.aload_n 0, 1) := by decide +kernel
theorem dX3_init_5 : decode cX3_init 5 = .ok (.sipush 900, 3) := by decide +kernel
theorem dX3_init_8 : decode cX3_init 8 = .ok (.newarray .int, 2) := by decide +kernel
theorem dX3_init_10 : decode cX3_init 10 = .ok (.putfield 9, 3) := by decide +kernel
theorem dX3_init_13 : decode cX3_init 13 = .ok (.return_, 1) := by decide +kernel
theorem dX4_init_0 : decode cX4_init 0 = .ok (.aload_n 0, 1) := by decide +kernel
theorem dX4_init_1 : decode cX4_init 1 = .ok (.invokespecial 3, 3) := by decide +kernel
theorem dX4_init_4 : decode cX4_init 4 = .ok (.aload_n 0, 1) := by decide +kernel
theorem dX4_init_5 : decode cX4_init 5 = .ok (.iconst (-1), 1) := by decide +kernel
theorem dX4_init_6 : decode cX4_init 6 = .ok (.putfield 9, 3) := by decide +kernel
theorem dX4_init_9 : decode cX4_init 9 = .ok (.aload_n 0, 1) := by decide +kernel
theorem dX4_init_10 : decode cX4_init 10 = .ok (.aload_n 1, 1) := by decide +kernel
theorem dX4_init_11 : decode cX4_init 11 = .ok (.putfield 15, 3) := by decide +kernel
theorem dX4_init_14 : decode cX4_init 14 = .ok (.return_, 1) := by decide +kernel
set_option maxRecDepth 20000 in
theorem ggX4_begin_X4_step : GoodIn wsX4_begin wsX4_step := goodIn_r _ [8, 3, 9, 10, 11, 12, 13, 14, 15, 16, 17, 18, 19, 20, 21, 7, 22, 23, 24, 25, 26, 27, 28, 29, 30, 31, 32, 33, 34, 35, 36, 37, 38, 39, 40, 41, 42, 43, 44, 45, 46, 47, 48, 49, 50, 51, 52, 53, 54, 55, 56] (by decide +kernel) (by decide +kernel)
set_option maxRecDepth 20000 in
theorem gX4_begin_X4_step : GoodIn wsX4_begin (wsV RX4 25 RX4 yX4_step wsX4_step) := goodIn_app (goodIn_of _ (by decide +kernel)) ggX4_begin_X4_step
theorem dX4_begin_0 : decode cX4_begin 0 = .ok (.aload_n 0, 1) := by decide +kernel
theorem dX4_begin_1 : decode cX4_begin 1 = .ok (.iconst 0, 1) := by decide +kernel
theorem dX4_begin_2 : decode cX4_begin 2 = .ok (.putfield 19, 3) := by decide +kernel
theorem dX4_begin_5 : decode cX4_begin 5 = .ok (.aload_n 0, 1) := by decide +kernel
theorem dX4_begin_6 : decode cX4_begin 6 = .ok (.iconst (-1), 1) := by decide +kernel
theorem dX4_begin_7 : decode cX4_begin 7 = .ok (.putfield 9, 3) := by decide +kernel
theorem dX4_begin_10 : decode cX4_begin 10 = .ok (.aload_n 0, 1) := by decide +kernel
theorem dX4_begin_11 : decode cX4_begin 11 = .ok (.iconst 0, 1) := by decide +kernel
theorem dX4_begin_12 : decode cX4_begin 12 = .ok (.putfield 22, 3) := by decide +kernel
theorem dX4_begin_15 : decode cX4_begin 15 = .ok (.aload_n 0, 1) := by decide +kernel
theorem dX4_begin_16 : decode cX4_begin 16 = .ok (.invokevirtual 25, 3) := by decide +kernel
theorem dX4_begin_19 : decode cX4_begin 19 = .ok (.return_, 1) := by decide +kernel
theorem dX4_fail_0 : decode cX4_fail 0 = .ok (.aload_n 0, 1) := by decide +kernel
theorem dX4_fail_1 : decode cX4_fail 1 = .ok (.iload_n 1, 1) := by decide +kernel
theorem dX4_fail_2 : decode cX4_fail 2 = .ok (.putfield 19, 3) := by decide +kernel
theorem dX4_fail_5 : decode cX4_fail 5 = .ok (.aload_n 0, 1) := by decide +kernel
theorem dX4_fail_6 : decode cX4_fail 6 = .ok (.aload_n 0, 1) := by decide +kernel
theorem dX4_fail_7 : decode cX4_fail 7 = .ok (.getfield 28, 3) := by decide +kernel
theorem dX4_fail_10 : decode cX4_fail 10 = .ok (.putfield 9, 3) := by decide +kernel
theorem dX4_fail_13 : decode cX4_fail 13 = .ok (.iconst 0, 1) := by decide +kernel
theorem dX4_fail_14 : decode cX4_fail 14 = .ok (.ireturn, 1) := by decide +kernel
set_option maxRecDepth 20000 in
theorem ggX4_step_X0_at : GoodIn wsX4_step wsX0_at := goodIn_r _ [10, 11, 12, 48, 49, 50] (by decide +kernel) (by decide +kernel)
set_option maxRecDepth 20000 in
theorem gX4_step_X0_at : GoodIn wsX4_step (wsV RX4 36 RX0 yX0_at wsX0_at) := goodIn_app (goodIn_of _ (by decide +kernel)) ggX4_step_X0_at
theorem dX4_step_0 : decode cX4_step 0 = .ok (.aload_n 0, 1) := by decide +kernel
theorem dX4_step_1 : decode cX4_step 1 = .ok (.getfield 22, 3) := by decide +kernel
theorem dX4_step_4 : decode cX4_step 4 = .ok (.aload_n 0, 1) := by decide +kernel
theorem dX4_step_5 : decode cX4_step 5 = .ok (.getfield 15, 3) := by decide +kernel
theorem dX4_step_8 : decode cX4_step 8 = .ok (.getfield 31, 3) := by decide +kernel
theorem dX4_step_11 : decode cX4_step 11 = .ok (.if_icmp .ge 33, 3) := by decide +kernel
theorem dX4_step_14 : decode cX4_step 14 = .ok (.aload_n 0, 1) := by decide +kernel
theorem dX4_step_15 : decode cX4_step 15 = .ok (.getfield 15, 3) := by decide +kernel
theorem dX4_step_18 : decode cX4_step 18 = .ok (.aload_n 0, 1) := by decide +kernel
theorem dX4_step_19 : decode cX4_step 19 = .ok (.getfield 22, 3) := by decide +kernel
theorem dX4_step_22 : decode cX4_step 22 = .ok (.invokevirtual 36, 3) := by decide +kernel
theorem dX4_step_25 : decode cX4_step 25 = .ok (.invokestatic 40, 3) := by decide +kernel
theorem dX4_step_28 : decode cX4_step 28 = .ok (.ifCond .eq 16, 3) := by decide +kernel
theorem dX4_step_31 : decode cX4_step 31 = .ok (.aload_n 0, 1) := by decide +kernel
theorem dX4_step_32 : decode cX4_step 32 = .ok (.dup, 1) := by decide +kernel
theorem dX4_step_33 : decode cX4_step 33 = .ok (.getfield 22, 3) := by decide +kernel
theorem dX4_step_36 : decode cX4_step 36 = .ok (.iconst 1, 1) := by decide +kernel
theorem dX4_step_37 : decode cX4_step 37 = .ok (.iadd, 1) := by decide +kernel
theorem dX4_step_38 : decode cX4_step 38 = .ok (.putfield 22, 3) := by decide +kernel
theorem dX4_step_41 : decode cX4_step 41 = .ok (.goto (-41), 3) := by decide +kernel
theorem dX4_step_44 : decode cX4_step 44 = .ok (.aload_n 0, 1) := by decide +kernel
theorem dX4_step_45 : decode cX4_step 45 = .ok (.aload_n 0, 1) := by decide +kernel
theorem dX4_step_46 : decode cX4_step 46 = .ok (.getfield 22, 3) := by decide +kernel
theorem dX4_step_49 : decode cX4_step 49 = .ok (.putfield 28, 3) := by decide +kernel
theorem dX4_step_52 : decode cX4_step 52 = .ok (.aload_n 0, 1) := by decide +kernel
theorem dX4_step_53 : decode cX4_step 53 = .ok (.getfield 15, 3) := by decide +kernel
theorem dX4_step_56 : decode cX4_step 56 = .ok (.aload_n 0, 1) := by decide +kernel
theorem dX4_step_57 : decode cX4_step 57 = .ok (.getfield 28, 3) := by decide +kernel
theorem dX4_step_60 : decode cX4_step 60 = .ok (.invokevirtual 36, 3) := by decide +kernel
theorem dX4_step_63 : decode cX4_step 63 = .ok (.istore_n 1, 1) := by decide +kernel
theorem dX4_step_64 : decode cX4_step 64 = .ok (.iload_n 1, 1) := by decide +kernel
theorem dX4_step_65 : decode cX4_step 65 = .ok (.iconst (-1), 1) := by decide +kernel
theorem dX4_step_66 : decode cX4_step 66 = .ok (.if_icmp .ne 11, 3) := by decide +kernel
theorem dX4_step_69 : decode cX4_step 69 = .ok (.aload_n 0, 1) := by decide +kernel
theorem dX4_step_70 : decode cX4_step 70 = .ok (.iconst 1, 1) := by decide +kernel
theorem dX4_step_71 : decode cX4_step 71 = .ok (.putfield 44, 3) := by decide +kernel
theorem dX4_step_74 : decode cX4_step 74 = .ok (.goto 61, 3) := by decide +kernel
theorem dX4_step_77 : decode cX4_step 77 = .ok (.iload_n 1, 1) := by decide +kernel
theorem dX4_step_78 : decode cX4_step 78 = .ok (.invokestatic 47, 3) := by decide +kernel
theorem dX4_step_81 : decode cX4_step 81 = .ok (.ifCond .eq 10, 3) := by decide +kernel
theorem dX4_step_84 : decode cX4_step 84 = .ok (.aload_n 0, 1) := by decide +kernel
theorem dX4_step_85 : decode cX4_step 85 = .ok (.invokevirtual 50, 3) := by decide +kernel
theorem dX4_step_88 : decode cX4_step 88 = .ok (.goto 47, 3) := by decide +kernel
theorem dX4_step_91 : decode cX4_step 91 = .ok (.iload_n 1, 1) := by decide +kernel
theorem dX4_step_92 : decode cX4_step 92 = .ok (.invokestatic 53, 3) := by decide +kernel
theorem dX4_step_95 : decode cX4_step 95 = .ok (.ifCond .ne 28, 3) := by decide +kernel
theorem dX4_step_98 : decode cX4_step 98 = .ok (.iload_n 1, 1) := by decide +kernel
theorem dX4_step_99 : decode cX4_step 99 = .ok (.bipush 45, 2) := by decide +kernel
theorem dX4_step_101 : decode cX4_step 101 = .ok (.if_icmp .ne 29, 3) := by decide +kernel
theorem dX4_step_104 : decode cX4_step 104 = .ok (.aload_n 0, 1) := by decide +kernel
theorem dX4_step_105 : decode cX4_step 105 = .ok (.getfield 15, 3) := by decide +kernel
theorem dX4_step_108 : decode cX4_step 108 = .ok (.aload_n 0, 1) := by decide +kernel
theorem dX4_step_109 : decode cX4_step 109 = .ok (.getfield 28, 3) := by decide +kernel
theorem dX4_step_112 : decode cX4_step 112 = .ok (.iconst 1, 1) := by decide +kernel
theorem dX4_step_113 : decode cX4_step 113 = .ok (.iadd, 1) := by decide +kernel
theorem dX4_step_114 : decode cX4_step 114 = .ok (.invokevirtual 36, 3) := by decide +kernel
theorem dX4_step_117 : decode cX4_step 117 = .ok (.invokestatic 53, 3) := by decide +kernel
theorem dX4_step_120 : decode cX4_step 120 = .ok (.ifCond .eq 10, 3) := by decide +kernel
theorem dX4_step_123 : decode cX4_step 123 = .ok (.aload_n 0, 1) := by decide +kernel
theorem dX4_step_124 : decode cX4_step 124 = .ok (.invokevirtual 56, 3) := by decide +kernel
theorem dX4_step_127 : decode cX4_step 127 = .ok (.goto 8, 3) := by decide +kernel
theorem dX4_step_130 : decode cX4_step 130 = .ok (.aload_n 0, 1) := by decide +kernel
theorem dX4_step_131 : decode cX4_step 131 = .ok (.iload_n 1, 1) := by decide +kernel
theorem dX4_step_132 : decode cX4_step 132 = .ok (.invokevirtual 59, 3) := by decide +kernel
theorem dX4_step_135 : decode cX4_step 135 = .ok (.return_, 1) := by decide +kernel
set_option maxRecDepth 20000 in
theorem ggX4_isWord_X0_at : GoodIn wsX4_isWord wsX0_at := goodIn_r _ [58, 59, 60, 71, 72, 73] (by decide +kernel) (by decide +kernel)
set_option maxRecDepth 20000 in
theorem gX4_isWord_X0_at : GoodIn wsX4_isWord (wsV RX4 36 RX0 yX0_at wsX0_at) := goodIn_app (goodIn_of _ (by decide +kernel)) ggX4_isWord_X0_at
theorem dX4_isWord_0 : decode cX4_isWord 0 = .ok (.aload_n 0, 1) := by decide +kernel
theorem dX4_isWord_1 : decode cX4_isWord 1 = .ok (.getfield 44, 3) := by decide +kernel
theorem dX4_isWord_4 : decode cX4_isWord 4 = .ok (.iconst 2, 1) := by decide +kernel
theorem dX4_isWord_5 : decode cX4_isWord 5 = .ok (.if_icmp .ne 19, 3) := by decide +kernel
theorem dX4_isWord_8 : decode cX4_isWord 8 = .ok (.aload_n 1, 1) := by decide +kernel
theorem dX4_isWord_9 : decode cX4_isWord 9 = .ok (.invokevirtual 71, 3) := by decide +kernel
theorem dX4_isWord_12 : decode cX4_isWord 12 = .ok (.aload_n 0, 1) := by decide +kernel
theorem dX4_isWord_13 : decode cX4_isWord 13 = .ok (.getfield 22, 3) := by decide +kernel
theorem dX4_isWord_16 : decode cX4_isWord 16 = .ok (.aload_n 0, 1) := by decide +kernel
theorem dX4_isWord_17 : decode cX4_isWord 17 = .ok (.getfield 28, 3) := by decide +kernel
theorem dX4_isWord_20 : decode cX4_isWord 20 = .ok (.isub, 1) := by decide +kernel
theorem dX4_isWord_21 : decode cX4_isWord 21 = .ok (.if_icmp .eq 5, 3) := by decide +kernel
theorem dX4_isWord_24 : decode cX4_isWord 24 = .ok (.iconst 0, 1) := by decide +kernel
theorem dX4_isWord_25 : decode cX4_isWord 25 = .ok (.ireturn, 1) := by decide +kernel
theorem dX4_isWord_26 : decode cX4_isWord 26 = .ok (.iconst 0, 1) := by decide +kernel
theorem dX4_isWord_27 : decode cX4_isWord 27 = .ok (.istore_n 2, 1) := by decide +kernel
theorem dX4_isWord_28 : decode cX4_isWord 28 = .ok (.iload_n 2, 1) := by decide +kernel
theorem dX4_isWord_29 : decode cX4_isWord 29 = .ok (.aload_n 1, 1) := by decide +kernel
theorem dX4_isWord_30 : decode cX4_isWord 30 = .ok (.invokevirtual 71, 3) := by decide +kernel
theorem dX4_isWord_33 : decode cX4_isWord 33 = .ok (.if_icmp .ge 32, 3) := by decide +kernel
theorem dX4_isWord_36 : decode cX4_isWord 36 = .ok (.aload_n 1, 1) := by decide +kernel
theorem dX4_isWord_37 : decode cX4_isWord 37 = .ok (.iload_n 2, 1) := by decide +kernel
theorem dX4_isWord_38 : decode cX4_isWord 38 = .ok (.invokevirtual 77, 3) := by decide +kernel
theorem dX4_isWord_41 : decode cX4_isWord 41 = .ok (.aload_n 0, 1) := by decide +kernel
theorem dX4_isWord_42 : decode cX4_isWord 42 = .ok (.getfield 15, 3) := by decide +kernel
theorem dX4_isWord_45 : decode cX4_isWord 45 = .ok (.aload_n 0, 1) := by decide +kernel
theorem dX4_isWord_46 : decode cX4_isWord 46 = .ok (.getfield 28, 3) := by decide +kernel
theorem dX4_isWord_49 : decode cX4_isWord 49 = .ok (.iload_n 2, 1) := by decide +kernel
theorem dX4_isWord_50 : decode cX4_isWord 50 = .ok (.iadd, 1) := by decide +kernel
theorem dX4_isWord_51 : decode cX4_isWord 51 = .ok (.invokevirtual 36, 3) := by decide +kernel
theorem dX4_isWord_54 : decode cX4_isWord 54 = .ok (.if_icmp .eq 5, 3) := by decide +kernel
theorem dX4_isWord_57 : decode cX4_isWord 57 = .ok (.iconst 0, 1) := by decide +kernel
theorem dX4_isWord_58 : decode cX4_isWord 58 = .ok (.ireturn, 1) := by decide +kernel
theorem dX4_isWord_59 : decode cX4_isWord 59 = .ok (.iinc 2 1, 3) := by decide +kernel
theorem dX4_isWord_62 : decode cX4_isWord 62 = .ok (.goto (-34), 3) := by decide +kernel
theorem dX4_isWord_65 : decode cX4_isWord 65 = .ok (.iconst 1, 1) := by decide +kernel
theorem dX4_isWord_66 : decode cX4_isWord 66 = .ok (.ireturn, 1) := by decide +kernel
set_option maxRecDepth 20000 in
theorem ggX4_takeWord_X4_isWord : GoodIn wsX4_takeWord wsX4_isWord := goodIn_r _ [5, 6, 7, 8, 9, 10, 11, 12, 13, 14, 15, 16, 17, 18, 19, 20, 21, 22, 23, 24, 25, 26, 27, 28, 29, 30, 31, 32, 33, 34, 35, 36, 37, 38, 39, 40, 41, 42, 43, 44, 45, 46, 47, 48, 49, 50, 51, 52, 53, 54, 55, 56, 57, 58, 59, 60, 61, 62, 63, 64, 65, 101, 102, 103, 104, 105, 106, 107, 108, 109, 110, 111, 112, 113] (by decide +kernel) (by decide +kernel)
set_option maxRecDepth 20000 in
theorem gX4_takeWord_X4_isWord : GoodIn wsX4_takeWord (wsV RX4 83 RX4 yX4_isWord wsX4_isWord) := goodIn_app (goodIn_of _ (by decide +kernel)) ggX4_takeWord_X4_isWord
set_option maxRecDepth 20000 in
theorem ggX4_takeWord_X4_fail : GoodIn wsX4_takeWord wsX4_fail := goodIn_r _ [69, 70, 8, 71, 101, 102, 103, 104, 105, 106, 107, 108, 109, 110] (by decide +kernel) (by decide +kernel)
set_option maxRecDepth 20000 in
theorem gX4_takeWord_X4_fail : GoodIn wsX4_takeWord (wsV RX4 95 RX4 yX4_fail wsX4_fail) := goodIn_app (goodIn_of _ (by decide +kernel)) ggX4_takeWord_X4_fail
set_option maxRecDepth 20000 in
theorem ggX4_takeWord_X4_step : GoodIn wsX4_takeWord wsX4_step := goodIn_r _ [75, 7, 9, 76, 8, 6, 59, 60, 61, 62, 63, 64, 65, 77, 78, 4, 79, 80, 81, 82, 83, 84, 85, 86, 87, 88, 89, 90, 91, 92, 93, 94, 95, 96, 97, 98, 99, 100, 101, 102, 103, 104, 105, 106, 107, 108, 109, 110, 111, 112, 113] (by decide +kernel) (by decide +kernel)
set_option maxRecDepth 20000 in
theorem gX4_takeWord_X4_step : GoodIn wsX4_takeWord (wsV RX4 25 RX4 yX4_step wsX4_step) := goodIn_app (goodIn_of _ (by decide +kernel)) ggX4_takeWord_X4_step
theorem dX4_takeWord_0 : decode cX4_takeWord 0 = .ok (.aload_n 0, 1) := by decide +kernel
theorem dX4_takeWord_1 : decode cX4_takeWord 1 = .ok (.aload_n 1, 1) := by decide +kernel
theorem dX4_takeWord_2 : decode cX4_takeWord 2 = .ok (.invokevirtual 83, 3) := by decide +kernel
theorem dX4_takeWord_5 : decode cX4_takeWord 5 = .ok (.ifCond .ne 9, 3) := by decide +kernel
theorem dX4_takeWord_8 : decode cX4_takeWord 8 = .ok (.aload_n 0, 1) := by decide +kernel
theorem dX4_takeWord_9 : decode cX4_takeWord 9 = .ok (.iconst 1, 1) := by decide +kernel
theorem dX4_takeWord_10 : decode cX4_takeWord 10 = .ok (.invokevirtual 95, 3) := by decide +kernel
theorem dX4_takeWord_13 : decode cX4_takeWord 13 = .ok (.ireturn, 1) := by decide +kernel
theorem dX4_takeWord_14 : decode cX4_takeWord 14 = .ok (.aload_n 0, 1) := by decide +kernel
theorem dX4_takeWord_15 : decode cX4_takeWord 15 = .ok (.invokevirtual 25, 3) := by decide +kernel
theorem dX4_takeWord_18 : decode cX4_takeWord 18 = .ok (.iconst 1, 1) := by decide +kernel
theorem dX4_takeWord_19 : decode cX4_takeWord 19 = .ok (.ireturn, 1) := by decide +kernel
set_option maxRecDepth 20000 in
theorem ggX4_readNames_X4_begin : GoodIn wsX4_readNames wsX4_begin := goodIn_r _ [7, 8, 9, 10, 11, 12, 13, 6, 14, 15, 16, 17, 2, 18, 19, 20, 21, 22, 23, 24, 25, 26, 27, 28, 29, 30, 31, 32, 33, 34, 35, 36, 37, 38, 39, 40, 41, 42, 43, 44, 45, 46, 47, 48, 184, 185, 186, 187, 188, 189, 190, 191, 192, 193, 194, 195, 196] (by decide +kernel) (by decide +kernel)
set_option maxRecDepth 20000 in
theorem gX4_readNames_X4_begin : GoodIn wsX4_readNames (wsV RX4 98 RX4 yX4_begin wsX4_begin) := goodIn_app (goodIn_of _ (by decide +kernel)) ggX4_readNames_X4_begin
set_option maxRecDepth 20000 in
theorem ggX4_readNames_X2_wipe : GoodIn wsX4_readNames wsX2_wipe := goodIn_r _ [53, 54, 55, 179, 180, 181, 182, 183] (by decide +kernel) (by decide +kernel)
set_option maxRecDepth 20000 in
theorem gX4_readNames_X2_wipe : GoodIn wsX4_readNames (wsV RX4 101 RX2 yX2_wipe wsX2_wipe) := goodIn_app (goodIn_of _ (by decide +kernel)) ggX4_readNames_X2_wipe
set_option maxRecDepth 20000 in
theorem ggX4_readNames_X4_takeWord : GoodIn wsX4_readNames wsX4_takeWord := goodIn_r _ [59, 60, 61, 62, 6, 63, 2, 10, 17, 15, 64, 65, 66, 67, 68, 69, 70, 71, 72, 73, 74, 75, 76, 77, 78, 79, 80, 81, 82, 83, 84, 85, 86, 87, 88, 89, 90, 91, 92, 93, 94, 95, 96, 97, 98, 99, 100, 101, 102, 103, 104, 105, 106, 107, 108, 109, 110, 111, 112, 18, 19, 20, 21, 22, 23, 24, 113, 114, 115, 116, 8, 9, 11, 12, 13, 14, 16, 25, 26, 27, 28, 29, 30, 31, 32, 33, 34, 35, 36, 37, 38, 39, 40, 41, 42, 43, 44, 45, 46, 47, 48, 184, 185, 186, 187, 188, 189, 190, 191, 192, 193, 194, 195, 196] (by decide +kernel) (by decide +kernel)
set_option maxRecDepth 20000 in
theorem gX4_readNames_X4_takeWord : GoodIn wsX4_readNames (wsV RX4 106 RX4 yX4_takeWord wsX4_takeWord) := goodIn_app (goodIn_of _ (by decide +kernel)) ggX4_readNames_X4_takeWord
theorem dX4_readNames_0 : decode cX4_readNames 0 = .ok (.aload_n 0, 1) := by decide +kernel
theorem dX4_readNames_1 : decode cX4_readNames 1 = .ok (.invokevirtual 98, 3) := by decide +kernel
theorem dX4_readNames_4 : decode cX4_readNames 4 = .ok (.aload_n 1, 1) := by decide +kernel
theorem dX4_readNames_5 : decode cX4_readNames 5 = .ok (.invokevirtual 101, 3) := by decide +kernel
theorem dX4_readNames_8 : decode cX4_readNames 8 = .ok (.aload_n 0, 1) := by decide +kernel
theorem dX4_readNames_9 : decode cX4_readNames 9 = .ok (.ldc 81, 2) := by decide +kernel
theorem dX4_readNames_11 : decode cX4_readNames 11 = .ok (.invokevirtual 106, 3) := by decide +kernel
theorem dX4_readNames_14 : decode cX4_readNames 14 = .ok (.ifCond .ne 5, 3) := by decide +kernel
theorem dX4_readNames_17 : decode cX4_readNames 17 = .ok (.iconst 0, 1) := by decide +kernel
theorem dX4_readNames_18 : decode cX4_readNames 18 = .ok (.ireturn, 1) := by decide +kernel
theorem dX4_readNames_19 : decode cX4_readNames 19 = .ok (.aload_n 1, 1) := by decide +kernel
theorem dX4_readNames_20 : decode cX4_readNames 20 = .ok (.aload_n 0, 1) := by decide +kernel
theorem dX4_readNames_21 : decode cX4_readNames 21 = .ok (.aload_n 1, 1) := by decide +kernel
theorem dX4_readNames_22 : decode cX4_readNames 22 = .ok (.iconst 0, 1) := by decide +kernel
theorem dX4_readNames_23 : decode cX4_readNames 23 = .ok (.bipush 6, 2) := by decide +kernel
theorem dX4_readNames_25 : decode cX4_readNames 25 = .ok (.invokevirtual 109, 3) := by decide +kernel
theorem dX4_readNames_28 : decode cX4_readNames 28 = .ok (.putfield 113, 3) := by decide +kernel
theorem dX4_readNames_31 : decode cX4_readNames 31 = .ok (.aload_n 1, 1) := by decide +kernel
theorem dX4_readNames_32 : decode cX4_readNames 32 = .ok (.getfield 113, 3) := by decide +kernel
theorem dX4_readNames_35 : decode cX4_readNames 35 = .ok (.ifCond .ne 5, 3) := by decide +kernel
theorem dX4_readNames_38 : decode cX4_readNames 38 = .ok (.iconst 0, 1) := by decide +kernel
theorem dX4_readNames_39 : decode cX4_readNames 39 = .ok (.ireturn, 1) := by decide +kernel
theorem dX4_readNames_40 : decode cX4_readNames 40 = .ok (.iconst 0, 1) := by decide +kernel
theorem dX4_readNames_41 : decode cX4_readNames 41 = .ok (.istore_n 2, 1) := by decide +kernel
theorem dX4_readNames_42 : decode cX4_readNames 42 = .ok (.iload_n 2, 1) := by decide +kernel
theorem dX4_readNames_43 : decode cX4_readNames 43 = .ok (.bipush 8, 2) := by decide +kernel
theorem dX4_readNames_45 : decode cX4_readNames 45 = .ok (.if_icmp .gt 30, 3) := by decide +kernel
theorem dX4_readNames_48 : decode cX4_readNames 48 = .ok (.aload_n 0, 1) := by decide +kernel
theorem dX4_readNames_49 : decode cX4_readNames 49 = .ok (.aload_n 1, 1) := by decide +kernel
theorem dX4_readNames_50 : decode cX4_readNames 50 = .ok (.iload_n 2, 1) := by decide +kernel
theorem dX4_readNames_51 : decode cX4_readNames 51 = .ok (.invokevirtual 115, 3) := by decide +kernel
theorem dX4_readNames_54 : decode cX4_readNames 54 = .ok (.ifCond .ne 5, 3) := by decide +kernel
theorem dX4_readNames_57 : decode cX4_readNames 57 = .ok (.iconst 0, 1) := by decide +kernel
theorem dX4_readNames_58 : decode cX4_readNames 58 = .ok (.ireturn, 1) := by decide +kernel
theorem dX4_readNames_59 : decode cX4_readNames 59 = .ok (.aload_n 0, 1) := by decide +kernel
theorem dX4_readNames_60 : decode cX4_readNames 60 = .ok (.getfield 44, 3) := by decide +kernel
theorem dX4_readNames_63 : decode cX4_readNames 63 = .ok (.iconst 1, 1) := by decide +kernel
theorem dX4_readNames_64 : decode cX4_readNames 64 = .ok (.if_icmp .ne 5, 3) := by decide +kernel
theorem dX4_readNames_67 : decode cX4_readNames 67 = .ok (.iconst 1, 1) := by decide +kernel
theorem dX4_readNames_68 : decode cX4_readNames 68 = .ok (.ireturn, 1) := by decide +kernel
theorem dX4_readNames_69 : decode cX4_readNames 69 = .ok (.iinc 2 1, 3) := by decide +kernel
theorem dX4_readNames_72 : decode cX4_readNames 72 = .ok (.goto (-30), 3) := by decide +kernel
theorem dX4_readNames_75 : decode cX4_readNames 75 = .ok (.iconst 0, 1) := by decide +kernel
theorem dX4_readNames_76 : decode cX4_readNames 76 = .ok (.ireturn, 1) := by decide +kernel
theorem dX5_init_0 : decode cX5_init 0 = .ok (.aload_n 0, 1) := by decide +kernel
theorem dX5_init_1 : decode cX5_init 1 = .ok (.invokespecial 3, 3) := by decide +kernel
theorem dX5_init_4 : decode cX5_init 4 = .ok (.aload_n 0, 1) := by decide +kernel
theorem dX5_init_5 : decode cX5_init 5 = .ok (.sipush 12000, 3) := by decide +kernel
theorem dX5_init_8 : decode cX5_init 8 = .ok (.newarray .int, 2) := by decide +kernel
theorem dX5_init_10 : decode cX5_init 10 = .ok (.putfield 11, 3) := by decide +kernel
theorem dX5_init_13 : decode cX5_init 13 = .ok (.aload_n 0, 1) := by decide +kernel
theorem dX5_init_14 : decode cX5_init 14 = .ok (.sipush 12000, 3) := by decide +kernel
theorem dX5_init_17 : decode cX5_init 17 = .ok (.newarray .int, 2) := by decide +kernel
theorem dX5_init_19 : decode cX5_init 19 = .ok (.putfield 15, 3) := by decide +kernel
theorem dX5_init_22 : decode cX5_init 22 = .ok (.aload_n 0, 1) := by decide +kernel
theorem dX5_init_23 : decode cX5_init 23 = .ok (.sipush 12000, 3) := by decide +kernel
theorem dX5_init_26 : decode cX5_init 26 = .ok (.newarray .int, 2) := by decide +kernel
theorem dX5_init_28 : decode cX5_init 28 = .ok (.putfield 18, 3) := by decide +kernel
theorem dX5_init_31 : decode cX5_init 31 = .ok (.aload_n 0, 1) := by decide +kernel
theorem dX5_init_32 : decode cX5_init 32 = .ok (.sipush 200, 3) := by decide +kernel
theorem dX5_init_35 : decode cX5_init 35 = .ok (.newarray .int, 2) := by decide +kernel
theorem dX5_init_37 : decode cX5_init 37 = .ok (.putfield 21, 3) := by decide +kernel
theorem dX5_init_40 : decode cX5_init 40 = .ok (.aload_n 0, 1) := by decide +kernel
theorem dX5_init_41 : decode cX5_init 41 = .ok (.sipush 200, 3) := by decide +kernel
theorem dX5_init_44 : decode cX5_init 44 = .ok (.newarray .int, 2) := by decide +kernel
theorem dX5_init_46 : decode cX5_init 46 = .ok (.putfield 24, 3) := by decide +kernel
theorem dX5_init_49 : decode cX5_init 49 = .ok (.aload_n 0, 1) := by decide +kernel
theorem dX5_init_50 : decode cX5_init 50 = .ok (.sipush 200, 3) := by decide +kernel
theorem dX5_init_53 : decode cX5_init 53 = .ok (.newarray .int, 2) := by decide +kernel
theorem dX5_init_55 : decode cX5_init 55 = .ok (.putfield 27, 3) := by decide +kernel
theorem dX5_init_58 : decode cX5_init 58 = .ok (.aload_n 0, 1) := by decide +kernel
theorem dX5_init_59 : decode cX5_init 59 = .ok (.sipush 200, 3) := by decide +kernel
theorem dX5_init_62 : decode cX5_init 62 = .ok (.newarray .int, 2) := by decide +kernel
theorem dX5_init_64 : decode cX5_init 64 = .ok (.putfield 30, 3) := by decide +kernel
theorem dX5_init_67 : decode cX5_init 67 = .ok (.aload_n 0, 1) := by decide +kernel
theorem dX5_init_68 : decode cX5_init 68 = .ok (.sipush 200, 3) := by decide +kernel
theorem dX5_init_71 : decode cX5_init 71 = .ok (.newarray .int, 2) := by decide +kernel
theorem dX5_init_73 : decode cX5_init 73 = .ok (.putfield 33, 3) := by decide +kernel
theorem dX5_init_76 : decode cX5_init 76 = .ok (.aload_n 0, 1) := by decide +kernel
theorem dX5_init_77 : decode cX5_init 77 = .ok (.sipush 200, 3) := by decide +kernel
theorem dX5_init_80 : decode cX5_init 80 = .ok (.newarray .int, 2) := by decide +kernel
theorem dX5_init_82 : decode cX5_init 82 = .ok (.putfield 36, 3) := by decide +kernel
theorem dX5_init_85 : decode cX5_init 85 = .ok (.aload_n 0, 1) := by decide +kernel
theorem dX5_init_86 : decode cX5_init 86 = .ok (.sipush 200, 3) := by decide +kernel
theorem dX5_init_89 : decode cX5_init 89 = .ok (.newarray .int, 2) := by decide +kernel
theorem dX5_init_91 : decode cX5_init 91 = .ok (.putfield 39, 3) := by decide +kernel
theorem dX5_init_94 : decode cX5_init 94 = .ok (.aload_n 0, 1) := by decide +kernel
theorem dX5_init_95 : decode cX5_init 95 = .ok (.sipush 200, 3) := by decide +kernel
theorem dX5_init_98 : decode cX5_init 98 = .ok (.newarray .int, 2) := by decide +kernel
theorem dX5_init_100 : decode cX5_init 100 = .ok (.putfield 42, 3) := by decide +kernel
theorem dX5_init_103 : decode cX5_init 103 = .ok (.aload_n 0, 1) := by decide +kernel
theorem dX5_init_104 : decode cX5_init 104 = .ok (.bipush 60, 2) := by decide +kernel
theorem dX5_init_106 : decode cX5_init 106 = .ok (.newarray .int, 2) := by decide +kernel
theorem dX5_init_108 : decode cX5_init 108 = .ok (.putfield 45, 3) := by decide +kernel
theorem dX5_init_111 : decode cX5_init 111 = .ok (.aload_n 0, 1) := by decide +kernel
theorem dX5_init_112 : decode cX5_init 112 = .ok (.bipush 60, 2) := by decide +kernel
theorem dX5_init_114 : decode cX5_init 114 = .ok (.newarray .int, 2) := by decide +kernel
theorem dX5_init_116 : decode cX5_init 116 = .ok (.putfield 48, 3) := by decide +kernel
theorem dX5_init_119 : decode cX5_init 119 = .ok (.aload_n 0, 1) := by decide +kernel
theorem dX5_init_120 : decode cX5_init 120 = .ok (.bipush 60, 2) := by decide +kernel
theorem dX5_init_122 : decode cX5_init 122 = .ok (.newarray .boolean, 2) := by decide +kernel
theorem dX5_init_124 : decode cX5_init 124 = .ok (.putfield 51, 3) := by decide +kernel
theorem dX5_init_127 : decode cX5_init 127 = .ok (.aload_n 0, 1) := by decide +kernel
theorem dX5_init_128 : decode cX5_init 128 = .ok (.sipush 1600, 3) := by decide +kernel
theorem dX5_init_131 : decode cX5_init 131 = .ok (.newarray .int, 2) := by decide +kernel
theorem dX5_init_133 : decode cX5_init 133 = .ok (.putfield 55, 3) := by decide +kernel
theorem dX5_init_136 : decode cX5_init 136 = .ok (.return_, 1) := by decide +kernel
set_option maxRecDepth 20000 in
theorem ggX6_init_X3_init : GoodIn wsX6_init wsX3_init := goodIn_r _ [14, 15, 2, 3, 4, 16, 30, 31] (by decide +kernel) (by decide +kernel)
set_option maxRecDepth 20000 in
theorem gX6_init_X3_init_n23 : GoodIn wsX6_init (wsX3_init) := ggX6_init_X3_init
set_option maxRecDepth 20000 in
theorem ggX6_init_X6_logOf : GoodIn wsX6_init wsX6_logOf := goodIn_r _ [20, 21] (by decide +kernel) (by decide +kernel)
set_option maxRecDepth 20000 in
theorem gX6_init_X6_logOf : GoodIn wsX6_init (va_wsS RX6 31 yX6_logOf wsX6_logOf) := goodIn_app (goodIn_of _ (by decide +kernel)) ggX6_init_X6_logOf
set_option maxRecDepth 20000 in
theorem ggX6_init_X6_factorOf : GoodIn wsX6_init wsX6_factorOf := goodIn_r _ [24] (by decide +kernel) (by decide +kernel)
set_option maxRecDepth 20000 in
theorem gX6_init_X6_factorOf : GoodIn wsX6_init (va_wsS RX6 35 yX6_factorOf wsX6_factorOf) := goodIn_app (goodIn_of _ (by decide +kernel)) ggX6_init_X6_factorOf
theorem dX6_init_0 : decode cX6_init 0 = .ok (.aload_n 0, 1) := by decide +kernel
theorem dX6_init_1 : decode cX6_init 1 = .ok (.invokespecial 3, 3) := by decide +kernel
theorem dX6_init_4 : decode cX6_init 4 = .ok (.aload_n 0, 1) := by decide +kernel
theorem dX6_init_5 : decode cX6_init 5 = .ok (.sipush 201, 3) := by decide +kernel
theorem dX6_init_8 : decode cX6_init 8 = .ok (.newarray .int, 2) := by decide +kernel
theorem dX6_init_10 : decode cX6_init 10 = .ok (.putfield 9, 3) := by decide +kernel
theorem dX6_init_13 : decode cX6_init 13 = .ok (.aload_n 0, 1) := by decide +kernel
theorem dX6_init_14 : decode cX6_init 14 = .ok (.sipush 201, 3) := by decide +kernel
theorem dX6_init_17 : decode cX6_init 17 = .ok (.newarray .int, 2) := by decide +kernel
theorem dX6_init_19 : decode cX6_init 19 = .ok (.putfield 15, 3) := by decide +kernel
theorem dX6_init_22 : decode cX6_init 22 = .ok (.aload_n 0, 1) := by decide +kernel
theorem dX6_init_23 : decode cX6_init 23 = .ok (.sipush 201, 3) := by decide +kernel
theorem dX6_init_26 : decode cX6_init 26 = .ok (.newarray .int, 2) := by decide +kernel
theorem dX6_init_28 : decode cX6_init 28 = .ok (.putfield 18, 3) := by decide +kernel
theorem dX6_init_31 : decode cX6_init 31 = .ok (.aload_n 0, 1) := by decide +kernel
theorem dX6_init_32 : decode cX6_init 32 = .ok (.new 21, 3) := by decide +kernel
theorem dX6_init_35 : decode cX6_init 35 = .ok (.dup, 1) := by decide +kernel
theorem dX6_init_36 : decode cX6_init 36 = .ok (.invokespecial 23, 3) := by decide +kernel
theorem dX6_init_39 : decode cX6_init 39 = .ok (.putfield 24, 3) := by decide +kernel
theorem dX6_init_42 : decode cX6_init 42 = .ok (.aload_n 0, 1) := by decide +kernel
theorem dX6_init_43 : decode cX6_init 43 = .ok (.new 21, 3) := by decide +kernel
theorem dX6_init_46 : decode cX6_init 46 = .ok (.dup, 1) := by decide +kernel
theorem dX6_init_47 : decode cX6_init 47 = .ok (.invokespecial 23, 3) := by decide +kernel
theorem dX6_init_50 : decode cX6_init 50 = .ok (.putfield 28, 3) := by decide +kernel
theorem dX6_init_53 : decode cX6_init 53 = .ok (.iconst 1, 1) := by decide +kernel
theorem dX6_init_54 : decode cX6_init 54 = .ok (.istore_n 1, 1) := by decide +kernel
theorem dX6_init_55 : decode cX6_init 55 = .ok (.iload_n 1, 1) := by decide +kernel
theorem dX6_init_56 : decode cX6_init 56 = .ok (.sipush 200, 3) := by decide +kernel
theorem dX6_init_59 : decode cX6_init 59 = .ok (.if_icmp .gt 29, 3) := by decide +kernel
theorem dX6_init_62 : decode cX6_init 62 = .ok (.aload_n 0, 1) := by decide +kernel
theorem dX6_init_63 : decode cX6_init 63 = .ok (.getfield 9, 3) := by decide +kernel
theorem dX6_init_66 : decode cX6_init 66 = .ok (.iload_n 1, 1) := by decide +kernel
theorem dX6_init_67 : decode cX6_init 67 = .ok (.iload_n 1, 1) := by decide +kernel
theorem dX6_init_68 : decode cX6_init 68 = .ok (.invokestatic 31, 3) := by decide +kernel
theorem dX6_init_71 : decode cX6_init 71 = .ok (.iastore, 1) := by decide +kernel
theorem dX6_init_72 : decode cX6_init 72 = .ok (.aload_n 0, 1) := by decide +kernel
theorem dX6_init_73 : decode cX6_init 73 = .ok (.getfield 15, 3) := by decide +kernel
theorem dX6_init_76 : decode cX6_init 76 = .ok (.iload_n 1, 1) := by decide +kernel
theorem dX6_init_77 : decode cX6_init 77 = .ok (.iload_n 1, 1) := by decide +kernel
theorem dX6_init_78 : decode cX6_init 78 = .ok (.invokestatic 35, 3) := by decide +kernel
theorem dX6_init_81 : decode cX6_init 81 = .ok (.iastore, 1) := by decide +kernel
theorem dX6_init_82 : decode cX6_init 82 = .ok (.iinc 1 1, 3) := by decide +kernel
theorem dX6_init_85 : decode cX6_init 85 = .ok (.goto (-30), 3) := by decide +kernel
theorem dX6_init_88 : decode cX6_init 88 = .ok (.return_, 1) := by decide +kernel
theorem dX6_logOf_0 : decode cX6_logOf 0 = .ok (.iconst 0, 1) := by decide +kernel
theorem dX6_logOf_1 : decode cX6_logOf 1 = .ok (.istore_n 1, 1) := by decide +kernel
theorem dX6_logOf_2 : decode cX6_logOf 2 = .ok (.iload_n 1, 1) := by decide +kernel
theorem dX6_logOf_3 : decode cX6_logOf 3 = .ok (.bipush 30, 2) := by decide +kernel
theorem dX6_logOf_5 : decode cX6_logOf 5 = .ok (.if_icmp .ge 16, 3) := by decide +kernel
theorem dX6_logOf_8 : decode cX6_logOf 8 = .ok (.iconst 2, 1) := by decide +kernel
theorem dX6_logOf_9 : decode cX6_logOf 9 = .ok (.iload_n 1, 1) := by decide +kernel
theorem dX6_logOf_10 : decode cX6_logOf 10 = .ok (.ishl, 1) := by decide +kernel
theorem dX6_logOf_11 : decode cX6_logOf 11 = .ok (.iload_n 0, 1) := by decide +kernel
theorem dX6_logOf_12 : decode cX6_logOf 12 = .ok (.if_icmp .gt 9, 3) := by decide +kernel
theorem dX6_logOf_15 : decode cX6_logOf 15 = .ok (.iinc 1 1, 3) := by decide +kernel
theorem dX6_logOf_18 : decode cX6_logOf 18 = .ok (.goto (-16), 3) := by decide +kernel
theorem dX6_logOf_21 : decode cX6_logOf 21 = .ok (.iload_n 0, 1) := by decide +kernel
theorem dX6_logOf_22 : decode cX6_logOf 22 = .ok (.i2l, 1) := by decide +kernel
theorem dX6_logOf_23 : decode cX6_logOf 23 = .ok (.bipush 30, 2) := by decide +kernel
theorem dX6_logOf_25 : decode cX6_logOf 25 = .ok (.lshl, 1) := by decide +kernel
theorem dX6_logOf_26 : decode cX6_logOf 26 = .ok (.iload_n 1, 1) := by decide +kernel
theorem dX6_logOf_27 : decode cX6_logOf 27 = .ok (.lshr, 1) := by decide +kernel
theorem dX6_logOf_28 : decode cX6_logOf 28 = .ok (.lstore_n 2, 1) := by decide +kernel
theorem dX6_logOf_29 : decode cX6_logOf 29 = .ok (.iload_n 1, 1) := by decide +kernel
theorem dX6_logOf_30 : decode cX6_logOf 30 = .ok (.istore 4, 2) := by decide +kernel
theorem dX6_logOf_32 : decode cX6_logOf 32 = .ok (.iconst 0, 1) := by decide +kernel
theorem dX6_logOf_33 : decode cX6_logOf 33 = .ok (.istore 5, 2) := by decide +kernel
theorem dX6_logOf_35 : decode cX6_logOf 35 = .ok (.iload 5, 2) := by decide +kernel
theorem dX6_logOf_37 : decode cX6_logOf 37 = .ok (.bipush 16, 2) := by decide +kernel
theorem dX6_logOf_39 : decode cX6_logOf 39 = .ok (.if_icmp .ge 37, 3) := by decide +kernel
theorem dX6_logOf_42 : decode cX6_logOf 42 = .ok (.iconst 2, 1) := by decide +kernel
theorem dX6_logOf_43 : decode cX6_logOf 43 = .ok (.iload 4, 2) := by decide +kernel
theorem dX6_logOf_45 : decode cX6_logOf 45 = .ok (.imul, 1) := by decide +kernel
theorem dX6_logOf_46 : decode cX6_logOf 46 = .ok (.istore 4, 2) := by decide +kernel
theorem dX6_logOf_48 : decode cX6_logOf 48 = .ok (.lload_n 2, 1) := by decide +kernel
theorem dX6_logOf_49 : decode cX6_logOf 49 = .ok (.lload_n 2, 1) := by decide +kernel
theorem dX6_logOf_50 : decode cX6_logOf 50 = .ok (.lmul, 1) := by decide +kernel
theorem dX6_logOf_51 : decode cX6_logOf 51 = .ok (.bipush 30, 2) := by decide +kernel
theorem dX6_logOf_53 : decode cX6_logOf 53 = .ok (.lshr, 1) := by decide +kernel
theorem dX6_logOf_54 : decode cX6_logOf 54 = .ok (.lstore_n 2, 1) := by decide +kernel
theorem dX6_logOf_55 : decode cX6_logOf 55 = .ok (.lload_n 2, 1) := by decide +kernel
theorem dX6_logOf_56 : decode cX6_logOf 56 = .ok (.ldc2_w 38, 3) := by decide +kernel
theorem dX6_logOf_59 : decode cX6_logOf 59 = .ok (.lcmp, 1) := by decide +kernel
theorem dX6_logOf_60 : decode cX6_logOf 60 = .ok (.ifCond .lt 10, 3) := by decide +kernel
theorem dX6_logOf_63 : decode cX6_logOf 63 = .ok (.iinc 4 1, 3) := by decide +kernel
theorem dX6_logOf_66 : decode cX6_logOf 66 = .ok (.lload_n 2, 1) := by decide +kernel
theorem dX6_logOf_67 : decode cX6_logOf 67 = .ok (.iconst 1, 1) := by decide +kernel
theorem dX6_logOf_68 : decode cX6_logOf 68 = .ok (.lshr, 1) := by decide +kernel
theorem dX6_logOf_69 : decode cX6_logOf 69 = .ok (.lstore_n 2, 1) := by decide +kernel
theorem dX6_logOf_70 : decode cX6_logOf 70 = .ok (.iinc 5 1, 3) := by decide +kernel
theorem dX6_logOf_73 : decode cX6_logOf 73 = .ok (.goto (-38), 3) := by decide +kernel
theorem dX6_logOf_76 : decode cX6_logOf 76 = .ok (.iload 4, 2) := by decide +kernel
theorem dX6_logOf_78 : decode cX6_logOf 78 = .ok (.ireturn, 1) := by decide +kernel
theorem dX6_factorOf_0 : decode cX6_factorOf 0 = .ok (.iconst 2, 1) := by decide +kernel
theorem dX6_factorOf_1 : decode cX6_factorOf 1 = .ok (.istore_n 1, 1) := by decide +kernel
theorem dX6_factorOf_2 : decode cX6_factorOf 2 = .ok (.iload_n 1, 1) := by decide +kernel
theorem dX6_factorOf_3 : decode cX6_factorOf 3 = .ok (.iload_n 1, 1) := by decide +kernel
theorem dX6_factorOf_4 : decode cX6_factorOf 4 = .ok (.imul, 1) := by decide +kernel
theorem dX6_factorOf_5 : decode cX6_factorOf 5 = .ok (.iload_n 0, 1) := by decide +kernel
theorem dX6_factorOf_6 : decode cX6_factorOf 6 = .ok (.if_icmp .gt 17, 3) := by decide +kernel
theorem dX6_factorOf_9 : decode cX6_factorOf 9 = .ok (.iload_n 0, 1) := by decide +kernel
theorem dX6_factorOf_10 : decode cX6_factorOf 10 = .ok (.iload_n 1, 1) := by decide +kernel
theorem dX6_factorOf_11 : decode cX6_factorOf 11 = .ok (.irem, 1) := by decide +kernel
theorem dX6_factorOf_12 : decode cX6_factorOf 12 = .ok (.ifCond .ne 5, 3) := by decide +kernel
theorem dX6_factorOf_15 : decode cX6_factorOf 15 = .ok (.iload_n 1, 1) := by decide +kernel
theorem dX6_factorOf_16 : decode cX6_factorOf 16 = .ok (.ireturn, 1) := by decide +kernel
theorem dX6_factorOf_17 : decode cX6_factorOf 17 = .ok (.iinc 1 1, 3) := by decide +kernel
theorem dX6_factorOf_20 : decode cX6_factorOf 20 = .ok (.goto (-18), 3) := by decide +kernel
theorem dX6_factorOf_23 : decode cX6_factorOf 23 = .ok (.iload_n 0, 1) := by decide +kernel
theorem dX6_factorOf_24 : decode cX6_factorOf 24 = .ok (.ireturn, 1) := by decide +kernel
theorem dX7_init_0 : decode cX7_init 0 = .ok (.aload_n 0, 1) := by decide +kernel
theorem dX7_init_1 : decode cX7_init 1 = .ok (.invokespecial 3, 3) := by decide +kernel
theorem dX7_init_4 : decode cX7_init 4 = .ok (.aload_n 0, 1) := by decide +kernel
theorem dX7_init_5 : decode cX7_init 5 = .ok (.bipush 8, 2) := by decide +kernel
theorem dX7_init_7 : decode cX7_init 7 = .ok (.newarray .int, 2) := by decide +kernel
theorem dX7_init_9 : decode cX7_init 9 = .ok (.putfield 9, 3) := by decide +kernel
theorem dX7_init_12 : decode cX7_init 12 = .ok (.aload_n 0, 1) := by decide +kernel
theorem dX7_init_13 : decode cX7_init 13 = .ok (.bipush 48, 2) := by decide +kernel
theorem dX7_init_15 : decode cX7_init 15 = .ok (.newarray .int, 2) := by decide +kernel
theorem dX7_init_17 : decode cX7_init 17 = .ok (.putfield 15, 3) := by decide +kernel
theorem dX7_init_20 : decode cX7_init 20 = .ok (.return_, 1) := by decide +kernel
theorem dX8_init_0 : decode cX8_init 0 = .ok (.aload_n 0, 1) := by decide +kernel
theorem dX8_init_1 : decode cX8_init 1 = .ok (.invokespecial 3, 3) := by decide +kernel
theorem dX8_init_4 : decode cX8_init 4 = .ok (.aload_n 0, 1) := by decide +kernel
theorem dX8_init_5 : decode cX8_init 5 = .ok (.iload_n 1, 1) := by decide +kernel
theorem dX8_init_6 : decode cX8_init 6 = .ok (.iconst 0, 1) := by decide +kernel
theorem dX8_init_7 : decode cX8_init 7 = .ok (.invokestatic 9, 3) := by decide +kernel
theorem dX8_init_10 : decode cX8_init 10 = .ok (.putfield 15, 3) := by decide +kernel
theorem dX8_init_13 : decode cX8_init 13 = .ok (.aload_n 0, 1) := by decide +kernel
theorem dX8_init_14 : decode cX8_init 14 = .ok (.aload_n 0, 1) := by decide +kernel
theorem dX8_init_15 : decode cX8_init 15 = .ok (.getfield 15, 3) := by decide +kernel
theorem dX8_init_18 : decode cX8_init 18 = .ok (.bipush 9, 2) := by decide +kernel
theorem dX8_init_20 : decode cX8_init 20 = .ok (.imul, 1) := by decide +kernel
theorem dX8_init_21 : decode cX8_init 21 = .ok (.newarray .int, 2) := by decide +kernel
theorem dX8_init_23 : decode cX8_init 23 = .ok (.putfield 21, 3) := by decide +kernel
theorem dX8_init_26 : decode cX8_init 26 = .ok (.return_, 1) := by decide +kernel
theorem dX9_init_0 : decode cX9_init 0 = .ok (.aload_n 0, 1) := by decide +kernel
theorem dX9_init_1 : decode cX9_init 1 = .ok (.invokespecial 3, 3) := by decide +kernel
theorem dX9_init_4 : decode cX9_init 4 = .ok (.aload_n 0, 1) := by decide +kernel
theorem dX9_init_5 : decode cX9_init 5 = .ok (.sipush 1600, 3) := by decide +kernel
theorem dX9_init_8 : decode cX9_init 8 = .ok (.newarray .int, 2) := by decide +kernel
theorem dX9_init_10 : decode cX9_init 10 = .ok (.putfield 9, 3) := by decide +kernel
theorem dX9_init_13 : decode cX9_init 13 = .ok (.aload_n 0, 1) := by decide +kernel
theorem dX9_init_14 : decode cX9_init 14 = .ok (.sipush 1600, 3) := by decide +kernel
theorem dX9_init_17 : decode cX9_init 17 = .ok (.newarray .int, 2) := by decide +kernel
theorem dX9_init_19 : decode cX9_init 19 = .ok (.putfield 15, 3) := by decide +kernel
theorem dX9_init_22 : decode cX9_init 22 = .ok (.aload_n 0, 1) := by decide +kernel
theorem dX9_init_23 : decode cX9_init 23 = .ok (.sipush 1600, 3) := by decide +kernel
theorem dX9_init_26 : decode cX9_init 26 = .ok (.newarray .boolean, 2) := by decide +kernel
theorem dX9_init_28 : decode cX9_init 28 = .ok (.putfield 18, 3) := by decide +kernel
theorem dX9_init_31 : decode cX9_init 31 = .ok (.aload_n 0, 1) := by decide +kernel
theorem dX9_init_32 : decode cX9_init 32 = .ok (.sipush 1600, 3) := by decide +kernel
theorem dX9_init_35 : decode cX9_init 35 = .ok (.newarray .int, 2) := by decide +kernel
theorem dX9_init_37 : decode cX9_init 37 = .ok (.putfield 22, 3) := by decide +kernel
theorem dX9_init_40 : decode cX9_init 40 = .ok (.aload_n 0, 1) := by decide +kernel
theorem dX9_init_41 : decode cX9_init 41 = .ok (.sipush 1600, 3) := by decide +kernel
theorem dX9_init_44 : decode cX9_init 44 = .ok (.newarray .int, 2) := by decide +kernel
theorem dX9_init_46 : decode cX9_init 46 = .ok (.putfield 25, 3) := by decide +kernel
theorem dX9_init_49 : decode cX9_init 49 = .ok (.aload_n 0, 1) := by decide +kernel
theorem dX9_init_50 : decode cX9_init 50 = .ok (.sipush 1600, 3) := by decide +kernel
theorem dX9_init_53 : decode cX9_init 53 = .ok (.newarray .int, 2) := by decide +kernel
theorem dX9_init_55 : decode cX9_init 55 = .ok (.putfield 28, 3) := by decide +kernel
theorem dX9_init_58 : decode cX9_init 58 = .ok (.aload_n 0, 1) := by decide +kernel
theorem dX9_init_59 : decode cX9_init 59 = .ok (.sipush 1600, 3) := by decide +kernel
theorem dX9_init_62 : decode cX9_init 62 = .ok (.newarray .int, 2) := by decide +kernel
theorem dX9_init_64 : decode cX9_init 64 = .ok (.putfield 31, 3) := by decide +kernel
theorem dX9_init_67 : decode cX9_init 67 = .ok (.aload_n 0, 1) := by decide +kernel
theorem dX9_init_68 : decode cX9_init 68 = .ok (.sipush 1600, 3) := by decide +kernel
theorem dX9_init_71 : decode cX9_init 71 = .ok (.newarray .int, 2) := by decide +kernel
theorem dX9_init_73 : decode cX9_init 73 = .ok (.putfield 34, 3) := by decide +kernel
theorem dX9_init_76 : decode cX9_init 76 = .ok (.aload_n 0, 1) := by decide +kernel
theorem dX9_init_77 : decode cX9_init 77 = .ok (.sipush 1600, 3) := by decide +kernel
theorem dX9_init_80 : decode cX9_init 80 = .ok (.newarray .int, 2) := by decide +kernel
theorem dX9_init_82 : decode cX9_init 82 = .ok (.putfield 37, 3) := by decide +kernel
theorem dX9_init_85 : decode cX9_init 85 = .ok (.aload_n 0, 1) := by decide +kernel
theorem dX9_init_86 : decode cX9_init 86 = .ok (.sipush 9600, 3) := by decide +kernel
theorem dX9_init_89 : decode cX9_init 89 = .ok (.newarray .int, 2) := by decide +kernel
theorem dX9_init_91 : decode cX9_init 91 = .ok (.putfield 40, 3) := by decide +kernel
theorem dX9_init_94 : decode cX9_init 94 = .ok (.aload_n 0, 1) := by decide +kernel
theorem dX9_init_95 : decode cX9_init 95 = .ok (.sipush 1600, 3) := by decide +kernel
theorem dX9_init_98 : decode cX9_init 98 = .ok (.newarray .int, 2) := by decide +kernel
theorem dX9_init_100 : decode cX9_init 100 = .ok (.putfield 43, 3) := by decide +kernel
theorem dX9_init_103 : decode cX9_init 103 = .ok (.aload_n 0, 1) := by decide +kernel
theorem dX9_init_104 : decode cX9_init 104 = .ok (.sipush 1600, 3) := by decide +kernel
theorem dX9_init_107 : decode cX9_init 107 = .ok (.newarray .int, 2) := by decide +kernel
theorem dX9_init_109 : decode cX9_init 109 = .ok (.putfield 46, 3) := by decide +kernel
theorem dX9_init_112 : decode cX9_init 112 = .ok (.aload_n 0, 1) := by decide +kernel
theorem dX9_init_113 : decode cX9_init 113 = .ok (.sipush 1600, 3) := by decide +kernel
theorem dX9_init_116 : decode cX9_init 116 = .ok (.newarray .int, 2) := by decide +kernel
theorem dX9_init_118 : decode cX9_init 118 = .ok (.putfield 49, 3) := by decide +kernel
theorem dX9_init_121 : decode cX9_init 121 = .ok (.return_, 1) := by decide +kernel
theorem dX9_leaves_0 : decode cX9_leaves 0 = .ok (.iconst 0, 1) := by decide +kernel
theorem dX9_leaves_1 : decode cX9_leaves 1 = .ok (.istore_n 1, 1) := by decide +kernel
theorem dX9_leaves_2 : decode cX9_leaves 2 = .ok (.iconst 0, 1) := by decide +kernel
theorem dX9_leaves_3 : decode cX9_leaves 3 = .ok (.istore_n 2, 1) := by decide +kernel
theorem dX9_leaves_4 : decode cX9_leaves 4 = .ok (.iload_n 2, 1) := by decide +kernel
theorem dX9_leaves_5 : decode cX9_leaves 5 = .ok (.aload_n 0, 1) := by decide +kernel
theorem dX9_leaves_6 : decode cX9_leaves 6 = .ok (.getfield 52, 3) := by decide +kernel
theorem dX9_leaves_9 : decode cX9_leaves 9 = .ok (.if_icmp .ge 21, 3) := by decide +kernel
theorem dX9_leaves_12 : decode cX9_leaves 12 = .ok (.aload_n 0, 1) := by decide +kernel
theorem dX9_leaves_13 : decode cX9_leaves 13 = .ok (.getfield 28, 3) := by decide +kernel
theorem dX9_leaves_16 : decode cX9_leaves 16 = .ok (.iload_n 2, 1) := by decide +kernel
theorem dX9_leaves_17 : decode cX9_leaves 17 = .ok (.iaload, 1) := by decide +kernel
theorem dX9_leaves_18 : decode cX9_leaves 18 = .ok (.ifCond .ne 6, 3) := by decide +kernel
theorem dX9_leaves_21 : decode cX9_leaves 21 = .ok (.iinc 1 1, 3) := by decide +kernel
theorem dX9_leaves_24 : decode cX9_leaves 24 = .ok (.iinc 2 1, 3) := by decide +kernel
theorem dX9_leaves_27 : decode cX9_leaves 27 = .ok (.goto (-23), 3) := by decide +kernel
theorem dX9_leaves_30 : decode cX9_leaves 30 = .ok (.iload_n 1, 1) := by decide +kernel
theorem dX9_leaves_31 : decode cX9_leaves 31 = .ok (.ireturn, 1) := by decide +kernel
theorem dX10_init_0 : decode cX10_init 0 = .ok (.aload_n 0, 1) := by decide +kernel
theorem dX10_init_1 : decode cX10_init 1 = .ok (.invokespecial 3, 3) := by decide +kernel
theorem dX10_init_4 : decode cX10_init 4 = .ok (.aload_n 0, 1) := by decide +kernel
theorem dX10_init_5 : decode cX10_init 5 = .ok (.aload_n 1, 1) := by decide +kernel
theorem dX10_init_6 : decode cX10_init 6 = .ok (.putfield 9, 3) := by decide +kernel
theorem dX10_init_9 : decode cX10_init 9 = .ok (.return_, 1) := by decide +kernel
set_option maxRecDepth 20000 in
theorem ggX11_init_X0_init : GoodIn wsX11_init wsX0_init := goodIn_r _ [52, 53, 2, 3, 54, 55, 56, 57, 58, 59, 167, 168, 169] (by decide +kernel) (by decide +kernel)
set_option maxRecDepth 20000 in
theorem gX11_init_X0_init : GoodIn wsX11_init (wsX0_init) := ggX11_init_X0_init
set_option maxRecDepth 20000 in
theorem ggX11_init_X4_init : GoodIn wsX11_init wsX4_init := goodIn_r _ [62, 63, 2, 3, 64, 65, 186, 187, 188, 189, 190, 191, 192, 193, 194, 195] (by decide +kernel) (by decide +kernel)
set_option maxRecDepth 20000 in
theorem gX11_init_X4_init : GoodIn wsX11_init (wsX4_init) := ggX11_init_X4_init
set_option maxRecDepth 20000 in
theorem ggX11_init_X10_init : GoodIn wsX11_init wsX10_init := goodIn_r _ [68, 69, 2, 3, 70, 196] (by decide +kernel) (by decide +kernel)
set_option maxRecDepth 20000 in
theorem gX11_init_X10_init : GoodIn wsX11_init (wsX10_init) := ggX11_init_X10_init
set_option maxRecDepth 20000 in
theorem ggX11_init_X8_init : GoodIn wsX11_init wsX8_init := goodIn_r _ [73, 74, 2, 3, 75, 55, 56, 57, 76, 77, 78, 197, 198, 199] (by decide +kernel) (by decide +kernel)
set_option maxRecDepth 20000 in
theorem gX11_init_X8_init : GoodIn wsX11_init (wsX8_init) := ggX11_init_X8_init
set_option maxRecDepth 20000 in
theorem ggX11_init_X6_init : GoodIn wsX11_init wsX6_init := goodIn_r _ [81, 82, 2, 3, 77, 83, 84, 85, 86, 87, 88, 89, 90, 91, 92, 93, 94, 95, 96, 25, 97, 98, 99, 100, 101, 200, 201, 202, 203, 204, 272, 273] (by decide +kernel) (by decide +kernel)
set_option maxRecDepth 20000 in
theorem gX11_init_X6_init : GoodIn wsX11_init (wsX6_init) := ggX11_init_X6_init
set_option maxRecDepth 20000 in
theorem ggX11_init_X7_init : GoodIn wsX11_init wsX7_init := goodIn_r _ [103, 104, 2, 3, 77, 105, 106, 205, 206, 207, 208, 209, 210, 211, 212, 213, 214, 215] (by decide +kernel) (by decide +kernel)
set_option maxRecDepth 20000 in
theorem gX11_init_X7_init_n59 : GoodIn wsX11_init (wsX7_init) := ggX11_init_X7_init
set_option maxRecDepth 20000 in
theorem ggX11_init_X5_init : GoodIn wsX11_init wsX5_init := goodIn_r _ [108, 109, 2, 3, 77, 110, 111, 112, 113, 114, 115, 116, 117, 118, 119, 120, 121, 122, 123, 124, 125, 216, 217, 218, 219, 220, 221, 222, 223, 224, 225, 226, 227, 228, 229, 230, 231, 232, 233] (by decide +kernel) (by decide +kernel)
set_option maxRecDepth 20000 in
theorem gX11_init_X5_init_n69 : GoodIn wsX11_init (wsX5_init) := ggX11_init_X5_init
set_option maxRecDepth 20000 in
theorem ggX11_init_X2_init : GoodIn wsX11_init wsX2_init := goodIn_r _ [127, 128, 2, 3, 58, 129, 77, 130, 131, 234, 235, 236, 237, 238] (by decide +kernel) (by decide +kernel)
set_option maxRecDepth 20000 in
theorem gX11_init_X2_init_n76 : GoodIn wsX11_init (wsX2_init) := ggX11_init_X2_init
set_option maxRecDepth 20000 in
theorem ggX11_init_X9_init : GoodIn wsX11_init wsX9_init := goodIn_r _ [133, 134, 2, 3, 77, 135, 136, 123, 137, 138, 139, 140, 141, 142, 143, 144, 145, 146, 147, 239, 240, 241, 242, 243, 244, 245, 246, 247, 248, 249, 250, 251, 252] (by decide +kernel) (by decide +kernel)
set_option maxRecDepth 20000 in
theorem gX11_init_X9_init_n86 : GoodIn wsX11_init (wsX9_init) := ggX11_init_X9_init
set_option maxRecDepth 20000 in
theorem ggX11_init_X1_init : GoodIn wsX11_init wsX1_init := goodIn_r _ [150, 151, 2, 3, 77, 152, 153, 154, 155, 156, 157, 158, 159, 160, 28, 29, 161, 162, 163, 164, 165, 166, 102, 103, 104, 105, 106, 253, 254, 255, 256, 257, 258, 259, 260, 261, 262, 263, 264, 265, 266, 267, 268, 269, 270, 271, 205, 206, 207, 208, 209, 210, 211, 212, 213, 214, 215] (by decide +kernel) (by decide +kernel)
set_option maxRecDepth 20000 in
theorem gX11_init_X1_init : GoodIn wsX11_init (wsX1_init) := ggX11_init_X1_init
theorem dX11_init_0 : decode cX11_init 0 = .ok (.aload_n 0, 1) := by decide +kernel
theorem dX11_init_1 : decode cX11_init 1 = .ok (.invokespecial 1, 3) := by decide +kernel
theorem dX11_init_4 : decode cX11_init 4 = .ok (.aload_n 0, 1) := by decide +kernel
theorem dX11_init_5 : decode cX11_init 5 = .ok (.new 7, 3) := by decide +kernel
theorem dX11_init_8 : decode cX11_init 8 = .ok (.dup, 1) := by decide +kernel
theorem dX11_init_9 : decode cX11_init 9 = .ok (.sipush 4000, 3) := by decide +kernel
theorem dX11_init_12 : decode cX11_init 12 = .ok (.invokespecial 11, 3) := by decide +kernel
theorem dX11_init_15 : decode cX11_init 15 = .ok (.putfield 14, 3) := by decide +kernel
theorem dX11_init_18 : decode cX11_init 18 = .ok (.aload_n 0, 1) := by decide +kernel
theorem dX11_init_19 : decode cX11_init 19 = .ok (.new 7, 3) := by decide +kernel
theorem dX11_init_22 : decode cX11_init 22 = .ok (.dup, 1) := by decide +kernel
theorem dX11_init_23 : decode cX11_init 23 = .ok (.sipush 6000, 3) := by decide +kernel
theorem dX11_init_26 : decode cX11_init 26 = .ok (.invokespecial 11, 3) := by decide +kernel
theorem dX11_init_29 : decode cX11_init 29 = .ok (.putfield 18, 3) := by decide +kernel
theorem dX11_init_32 : decode cX11_init 32 = .ok (.aload_n 0, 1) := by decide +kernel
theorem dX11_init_33 : decode cX11_init 33 = .ok (.new 21, 3) := by decide +kernel
theorem dX11_init_36 : decode cX11_init 36 = .ok (.dup, 1) := by decide +kernel
theorem dX11_init_37 : decode cX11_init 37 = .ok (.aload_n 0, 1) := by decide +kernel
theorem dX11_init_38 : decode cX11_init 38 = .ok (.getfield 14, 3) := by decide +kernel
theorem dX11_init_41 : decode cX11_init 41 = .ok (.invokespecial 23, 3) := by decide +kernel
theorem dX11_init_44 : decode cX11_init 44 = .ok (.putfield 26, 3) := by decide +kernel
theorem dX11_init_47 : decode cX11_init 47 = .ok (.aload_n 0, 1) := by decide +kernel
theorem dX11_init_48 : decode cX11_init 48 = .ok (.new 30, 3) := by decide +kernel
theorem dX11_init_51 : decode cX11_init 51 = .ok (.dup, 1) := by decide +kernel
theorem dX11_init_52 : decode cX11_init 52 = .ok (.aload_n 0, 1) := by decide +kernel
theorem dX11_init_53 : decode cX11_init 53 = .ok (.getfield 18, 3) := by decide +kernel
theorem dX11_init_56 : decode cX11_init 56 = .ok (.invokespecial 32, 3) := by decide +kernel
theorem dX11_init_59 : decode cX11_init 59 = .ok (.putfield 33, 3) := by decide +kernel
theorem dX11_init_62 : decode cX11_init 62 = .ok (.aload_n 0, 1) := by decide +kernel
theorem dX11_init_63 : decode cX11_init 63 = .ok (.new 37, 3) := by decide +kernel
theorem dX11_init_66 : decode cX11_init 66 = .ok (.dup, 1) := by decide +kernel
theorem dX11_init_67 : decode cX11_init 67 = .ok (.sipush 200, 3) := by decide +kernel
theorem dX11_init_70 : decode cX11_init 70 = .ok (.invokespecial 39, 3) := by decide +kernel
theorem dX11_init_73 : decode cX11_init 73 = .ok (.putfield 40, 3) := by decide +kernel
theorem dX11_init_76 : decode cX11_init 76 = .ok (.aload_n 0, 1) := by decide +kernel
theorem dX11_init_77 : decode cX11_init 77 = .ok (.new 37, 3) := by decide +kernel
theorem dX11_init_80 : decode cX11_init 80 = .ok (.dup, 1) := by decide +kernel
theorem dX11_init_81 : decode cX11_init 81 = .ok (.bipush 100, 2) := by decide +kernel
theorem dX11_init_83 : decode cX11_init 83 = .ok (.invokespecial 39, 3) := by decide +kernel
theorem dX11_init_86 : decode cX11_init 86 = .ok (.putfield 44, 3) := by decide +kernel
theorem dX11_init_89 : decode cX11_init 89 = .ok (.aload_n 0, 1) := by decide +kernel
theorem dX11_init_90 : decode cX11_init 90 = .ok (.new 37, 3) := by decide +kernel
theorem dX11_init_93 : decode cX11_init 93 = .ok (.dup, 1) := by decide +kernel
theorem dX11_init_94 : decode cX11_init 94 = .ok (.iconst 1, 1) := by decide +kernel
theorem dX11_init_95 : decode cX11_init 95 = .ok (.invokespecial 39, 3) := by decide +kernel
theorem dX11_init_98 : decode cX11_init 98 = .ok (.putfield 47, 3) := by decide +kernel
theorem dX11_init_101 : decode cX11_init 101 = .ok (.aload_n 0, 1) := by decide +kernel
theorem dX11_init_102 : decode cX11_init 102 = .ok (.new 50, 3) := by decide +kernel
theorem dX11_init_105 : decode cX11_init 105 = .ok (.dup, 1) := by decide +kernel
theorem dX11_init_106 : decode cX11_init 106 = .ok (.invokespecial 52, 3) := by decide +kernel
theorem dX11_init_109 : decode cX11_init 109 = .ok (.putfield 53, 3) := by decide +kernel
theorem dX11_init_112 : decode cX11_init 112 = .ok (.aload_n 0, 1) := by decide +kernel
theorem dX11_init_113 : decode cX11_init 113 = .ok (.new 57, 3) := by decide +kernel
theorem dX11_init_116 : decode cX11_init 116 = .ok (.dup, 1) := by decide +kernel
theorem dX11_init_117 : decode cX11_init 117 = .ok (.invokespecial 59, 3) := by decide +kernel
theorem dX11_init_120 : decode cX11_init 120 = .ok (.putfield 60, 3) := by decide +kernel
theorem dX11_init_123 : decode cX11_init 123 = .ok (.aload_n 0, 1) := by decide +kernel
theorem dX11_init_124 : decode cX11_init 124 = .ok (.new 57, 3) := by decide +kernel
theorem dX11_init_127 : decode cX11_init 127 = .ok (.dup, 1) := by decide +kernel
theorem dX11_init_128 : decode cX11_init 128 = .ok (.invokespecial 59, 3) := by decide +kernel
theorem dX11_init_131 : decode cX11_init 131 = .ok (.putfield 64, 3) := by decide +kernel
theorem dX11_init_134 : decode cX11_init 134 = .ok (.aload_n 0, 1) := by decide +kernel
theorem dX11_init_135 : decode cX11_init 135 = .ok (.new 67, 3) := by decide +kernel
theorem dX11_init_138 : decode cX11_init 138 = .ok (.dup, 1) := by decide +kernel
theorem dX11_init_139 : decode cX11_init 139 = .ok (.invokespecial 69, 3) := by decide +kernel
theorem dX11_init_142 : decode cX11_init 142 = .ok (.putfield 70, 3) := by decide +kernel
theorem dX11_init_145 : decode cX11_init 145 = .ok (.aload_n 0, 1) := by decide +kernel
theorem dX11_init_146 : decode cX11_init 146 = .ok (.new 74, 3) := by decide +kernel
theorem dX11_init_149 : decode cX11_init 149 = .ok (.dup, 1) := by decide +kernel
theorem dX11_init_150 : decode cX11_init 150 = .ok (.invokespecial 76, 3) := by decide +kernel
theorem dX11_init_153 : decode cX11_init 153 = .ok (.putfield 77, 3) := by decide +kernel
theorem dX11_init_156 : decode cX11_init 156 = .ok (.aload_n 0, 1) := by decide +kernel
theorem dX11_init_157 : decode cX11_init 157 = .ok (.new 74, 3) := by decide +kernel
theorem dX11_init_160 : decode cX11_init 160 = .ok (.dup, 1) := by decide +kernel
theorem dX11_init_161 : decode cX11_init 161 = .ok (.invokespecial 76, 3) := by decide +kernel
theorem dX11_init_164 : decode cX11_init 164 = .ok (.putfield 81, 3) := by decide +kernel
theorem dX11_init_167 : decode cX11_init 167 = .ok (.aload_n 0, 1) := by decide +kernel
theorem dX11_init_168 : decode cX11_init 168 = .ok (.new 84, 3) := by decide +kernel
theorem dX11_init_171 : decode cX11_init 171 = .ok (.dup, 1) := by decide +kernel
theorem dX11_init_172 : decode cX11_init 172 = .ok (.invokespecial 86, 3) := by decide +kernel
theorem dX11_init_175 : decode cX11_init 175 = .ok (.putfield 87, 3) := by decide +kernel
theorem dX11_init_178 : decode cX11_init 178 = .ok (.aload_n 0, 1) := by decide +kernel
theorem dX11_init_179 : decode cX11_init 179 = .ok (.new 84, 3) := by decide +kernel
theorem dX11_init_182 : decode cX11_init 182 = .ok (.dup, 1) := by decide +kernel
theorem dX11_init_183 : decode cX11_init 183 = .ok (.invokespecial 86, 3) := by decide +kernel
theorem dX11_init_186 : decode cX11_init 186 = .ok (.putfield 91, 3) := by decide +kernel
theorem dX11_init_189 : decode cX11_init 189 = .ok (.aload_n 0, 1) := by decide +kernel
theorem dX11_init_190 : decode cX11_init 190 = .ok (.new 94, 3) := by decide +kernel
theorem dX11_init_193 : decode cX11_init 193 = .ok (.dup, 1) := by decide +kernel
theorem dX11_init_194 : decode cX11_init 194 = .ok (.aload_n 0, 1) := by decide +kernel
theorem dX11_init_195 : decode cX11_init 195 = .ok (.getfield 53, 3) := by decide +kernel
theorem dX11_init_198 : decode cX11_init 198 = .ok (.aload_n 0, 1) := by decide +kernel
theorem dX11_init_199 : decode cX11_init 199 = .ok (.getfield 40, 3) := by decide +kernel
theorem dX11_init_202 : decode cX11_init 202 = .ok (.aload_n 0, 1) := by decide +kernel
theorem dX11_init_203 : decode cX11_init 203 = .ok (.getfield 77, 3) := by decide +kernel
theorem dX11_init_206 : decode cX11_init 206 = .ok (.aload_n 0, 1) := by decide +kernel
theorem dX11_init_207 : decode cX11_init 207 = .ok (.getfield 87, 3) := by decide +kernel
theorem dX11_init_210 : decode cX11_init 210 = .ok (.invokespecial 96, 3) := by decide +kernel
theorem dX11_init_213 : decode cX11_init 213 = .ok (.putfield 99, 3) := by decide +kernel
theorem dX11_init_216 : decode cX11_init 216 = .ok (.return_, 1) := by decide +kernel
set_option maxRecDepth 20000 in
theorem ggX11_feed_X11_feedFour : GoodIn wsX11_feed wsX11_feedFour := goodIn_r _ [7, 1, 8, 9, 10, 11, 12, 13, 14, 15, 16, 17, 18, 19, 20, 21, 22, 23, 24, 25, 26, 27, 28, 29, 30, 31, 32, 33, 34] (by decide +kernel) (by decide +kernel)
set_option maxRecDepth 20000 in
theorem gX11_feed_X11_feedFour : GoodIn wsX11_feed (wsV RX11 107 RX11 yX11_feedFour wsX11_feedFour) := goodIn_app (goodIn_of _ (by decide +kernel)) ggX11_feed_X11_feedFour
theorem dX11_feed_0 : decode cX11_feed 0 = .ok (.aload_n 0, 1) := by decide +kernel
theorem dX11_feed_1 : decode cX11_feed 1 = .ok (.getfield 14, 3) := by decide +kernel
theorem dX11_feed_4 : decode cX11_feed 4 = .ok (.getfield 103, 3) := by decide +kernel
theorem dX11_feed_7 : decode cX11_feed 7 = .ok (.bipush 20, 2) := by decide +kernel
theorem dX11_feed_9 : decode cX11_feed 9 = .ok (.iadd, 1) := by decide +kernel
theorem dX11_feed_10 : decode cX11_feed 10 = .ok (.sipush 4000, 3) := by decide +kernel
theorem dX11_feed_13 : decode cX11_feed 13 = .ok (.if_icmp .le 5, 3) := by decide +kernel
theorem dX11_feed_16 : decode cX11_feed 16 = .ok (.iconst (-1), 1) := by decide +kernel
theorem dX11_feed_17 : decode cX11_feed 17 = .ok (.ireturn, 1) := by decide +kernel
theorem dX11_feed_18 : decode cX11_feed 18 = .ok (.aload_n 0, 1) := by decide +kernel
theorem dX11_feed_19 : decode cX11_feed 19 = .ok (.iload_n 1, 1) := by decide +kernel
theorem dX11_feed_20 : decode cX11_feed 20 = .ok (.invokevirtual 107, 3) := by decide +kernel
theorem dX11_feed_23 : decode cX11_feed 23 = .ok (.aload_n 0, 1) := by decide +kernel
theorem dX11_feed_24 : decode cX11_feed 24 = .ok (.iload_n 2, 1) := by decide +kernel
theorem dX11_feed_25 : decode cX11_feed 25 = .ok (.invokevirtual 107, 3) := by decide +kernel
theorem dX11_feed_28 : decode cX11_feed 28 = .ok (.aload_n 0, 1) := by decide +kernel
theorem dX11_feed_29 : decode cX11_feed 29 = .ok (.iload_n 3, 1) := by decide +kernel
theorem dX11_feed_30 : decode cX11_feed 30 = .ok (.invokevirtual 107, 3) := by decide +kernel
theorem dX11_feed_33 : decode cX11_feed 33 = .ok (.aload_n 0, 1) := by decide +kernel
theorem dX11_feed_34 : decode cX11_feed 34 = .ok (.iload 4, 2) := by decide +kernel
theorem dX11_feed_36 : decode cX11_feed 36 = .ok (.invokevirtual 107, 3) := by decide +kernel
theorem dX11_feed_39 : decode cX11_feed 39 = .ok (.aload_n 0, 1) := by decide +kernel
theorem dX11_feed_40 : decode cX11_feed 40 = .ok (.iload 5, 2) := by decide +kernel
theorem dX11_feed_42 : decode cX11_feed 42 = .ok (.invokevirtual 107, 3) := by decide +kernel
theorem dX11_feed_45 : decode cX11_feed 45 = .ok (.aload_n 0, 1) := by decide +kernel
theorem dX11_feed_46 : decode cX11_feed 46 = .ok (.getfield 14, 3) := by decide +kernel
theorem dX11_feed_49 : decode cX11_feed 49 = .ok (.getfield 103, 3) := by decide +kernel
theorem dX11_feed_52 : decode cX11_feed 52 = .ok (.ireturn, 1) := by decide +kernel
set_option maxRecDepth 20000 in
theorem ggX11_feedFour_X0_add : GoodIn wsX11_feedFour wsX0_add := goodIn_r _ [6, 7, 8, 9, 26, 27, 28] (by decide +kernel) (by decide +kernel)
set_option maxRecDepth 20000 in
theorem gX11_feedFour_X0_add : GoodIn wsX11_feedFour (wsV RX11 110 RX0 yX0_add wsX0_add) := goodIn_app (goodIn_of _ (by decide +kernel)) ggX11_feedFour_X0_add
theorem dX11_feedFour_0 : decode cX11_feedFour 0 = .ok (.bipush 24, 2) := by decide +kernel
theorem dX11_feedFour_2 : decode cX11_feedFour 2 = .ok (.istore_n 2, 1) := by decide +kernel
theorem dX11_feedFour_3 : decode cX11_feedFour 3 = .ok (.iload_n 2, 1) := by decide +kernel
theorem dX11_feedFour_4 : decode cX11_feedFour 4 = .ok (.ifCond .lt 19, 3) := by decide +kernel
theorem dX11_feedFour_7 : decode cX11_feedFour 7 = .ok (.aload_n 0, 1) := by decide +kernel
theorem dX11_feedFour_8 : decode cX11_feedFour 8 = .ok (.getfield 14, 3) := by decide +kernel
theorem dX11_feedFour_11 : decode cX11_feedFour 11 = .ok (.iload_n 1, 1) := by decide +kernel
theorem dX11_feedFour_12 : decode cX11_feedFour 12 = .ok (.iload_n 2, 1) := by decide +kernel
theorem dX11_feedFour_13 : decode cX11_feedFour 13 = .ok (.iushr, 1) := by decide +kernel
theorem dX11_feedFour_14 : decode cX11_feedFour 14 = .ok (.invokevirtual 110, 3) := by decide +kernel
theorem dX11_feedFour_17 : decode cX11_feedFour 17 = .ok (.iinc 2 (-8), 3) := by decide +kernel
theorem dX11_feedFour_20 : decode cX11_feedFour 20 = .ok (.goto (-17), 3) := by decide +kernel
theorem dX11_feedFour_23 : decode cX11_feedFour 23 = .ok (.return_, 1) := by decide +kernel
set_option maxRecDepth 20000 in
theorem ggX11_end_X0_shorten : GoodIn wsX11_end wsX0_shorten := goodIn_r _ [7, 8, 9, 26, 27, 28] (by decide +kernel) (by decide +kernel)
set_option maxRecDepth 20000 in
theorem gX11_end_X0_shorten : GoodIn wsX11_end (wsV RX11 113 RX0 yX0_shorten wsX0_shorten) := goodIn_app (goodIn_of _ (by decide +kernel)) ggX11_end_X0_shorten
theorem dX11_end_0 : decode cX11_end 0 = .ok (.iload_n 1, 1) := by decide +kernel
theorem dX11_end_1 : decode cX11_end 1 = .ok (.ifCond .lt 14, 3) := by decide +kernel
theorem dX11_end_4 : decode cX11_end 4 = .ok (.iload_n 1, 1) := by decide +kernel
theorem dX11_end_5 : decode cX11_end 5 = .ok (.aload_n 0, 1) := by decide +kernel
theorem dX11_end_6 : decode cX11_end 6 = .ok (.getfield 14, 3) := by decide +kernel
theorem dX11_end_9 : decode cX11_end 9 = .ok (.getfield 103, 3) := by decide +kernel
theorem dX11_end_12 : decode cX11_end 12 = .ok (.if_icmp .le 5, 3) := by decide +kernel
theorem dX11_end_15 : decode cX11_end 15 = .ok (.iconst 0, 1) := by decide +kernel
theorem dX11_end_16 : decode cX11_end 16 = .ok (.ireturn, 1) := by decide +kernel
theorem dX11_end_17 : decode cX11_end 17 = .ok (.aload_n 0, 1) := by decide +kernel
theorem dX11_end_18 : decode cX11_end 18 = .ok (.getfield 14, 3) := by decide +kernel
theorem dX11_end_21 : decode cX11_end 21 = .ok (.iload_n 1, 1) := by decide +kernel
theorem dX11_end_22 : decode cX11_end 22 = .ok (.invokevirtual 113, 3) := by decide +kernel
theorem dX11_end_25 : decode cX11_end 25 = .ok (.iconst 1, 1) := by decide +kernel
theorem dX11_end_26 : decode cX11_end 26 = .ok (.ireturn, 1) := by decide +kernel
set_option maxRecDepth 20000 in
theorem ggX11_again_X0_shorten : GoodIn wsX11_again wsX0_shorten := goodIn_r _ [8, 9, 10, 36, 37, 38] (by decide +kernel) (by decide +kernel)
set_option maxRecDepth 20000 in
theorem gX11_again_X0_shorten : GoodIn wsX11_again (wsV RX11 113 RX0 yX0_shorten wsX0_shorten) := goodIn_app (goodIn_of _ (by decide +kernel)) ggX11_again_X0_shorten
set_option maxRecDepth 20000 in
theorem ggX11_again_X0_at : GoodIn wsX11_again wsX0_at := goodIn_r _ [14, 9, 15, 36, 37, 38] (by decide +kernel) (by decide +kernel)
set_option maxRecDepth 20000 in
theorem gX11_again_X0_at : GoodIn wsX11_again (wsV RX11 116 RX0 yX0_at wsX0_at) := goodIn_app (goodIn_of _ (by decide +kernel)) ggX11_again_X0_at
set_option maxRecDepth 20000 in
theorem ggX11_again_X0_add : GoodIn wsX11_again wsX0_add := goodIn_r _ [19, 9, 15, 10, 36, 37, 38] (by decide +kernel) (by decide +kernel)
set_option maxRecDepth 20000 in
theorem gX11_again_X0_add : GoodIn wsX11_again (wsV RX11 110 RX0 yX0_add wsX0_add) := goodIn_app (goodIn_of _ (by decide +kernel)) ggX11_again_X0_add
theorem dX11_again_0 : decode cX11_again 0 = .ok (.aload_n 0, 1) := by decide +kernel
theorem dX11_again_1 : decode cX11_again 1 = .ok (.getfield 14, 3) := by decide +kernel
theorem dX11_again_4 : decode cX11_again 4 = .ok (.iconst 0, 1) := by decide +kernel
theorem dX11_again_5 : decode cX11_again 5 = .ok (.invokevirtual 113, 3) := by decide +kernel
theorem dX11_again_8 : decode cX11_again 8 = .ok (.iconst 0, 1) := by decide +kernel
theorem dX11_again_9 : decode cX11_again 9 = .ok (.istore_n 1, 1) := by decide +kernel
theorem dX11_again_10 : decode cX11_again 10 = .ok (.iload_n 1, 1) := by decide +kernel
theorem dX11_again_11 : decode cX11_again 11 = .ok (.aload_n 0, 1) := by decide +kernel
theorem dX11_again_12 : decode cX11_again 12 = .ok (.getfield 18, 3) := by decide +kernel
theorem dX11_again_15 : decode cX11_again 15 = .ok (.getfield 103, 3) := by decide +kernel
theorem dX11_again_18 : decode cX11_again 18 = .ok (.if_icmp .ge 31, 3) := by decide +kernel
theorem dX11_again_21 : decode cX11_again 21 = .ok (.iload_n 1, 1) := by decide +kernel
theorem dX11_again_22 : decode cX11_again 22 = .ok (.sipush 4000, 3) := by decide +kernel
theorem dX11_again_25 : decode cX11_again 25 = .ok (.if_icmp .ge 24, 3) := by decide +kernel
theorem dX11_again_28 : decode cX11_again 28 = .ok (.aload_n 0, 1) := by decide +kernel
theorem dX11_again_29 : decode cX11_again 29 = .ok (.getfield 14, 3) := by decide +kernel
theorem dX11_again_32 : decode cX11_again 32 = .ok (.aload_n 0, 1) := by decide +kernel
theorem dX11_again_33 : decode cX11_again 33 = .ok (.getfield 18, 3) := by decide +kernel
theorem dX11_again_36 : decode cX11_again 36 = .ok (.iload_n 1, 1) := by decide +kernel
theorem dX11_again_37 : decode cX11_again 37 = .ok (.invokevirtual 116, 3) := by decide +kernel
theorem dX11_again_40 : decode cX11_again 40 = .ok (.invokevirtual 110, 3) := by decide +kernel
theorem dX11_again_43 : decode cX11_again 43 = .ok (.iinc 1 1, 3) := by decide +kernel
theorem dX11_again_46 : decode cX11_again 46 = .ok (.goto (-36), 3) := by decide +kernel
theorem dX11_again_49 : decode cX11_again 49 = .ok (.aload_n 0, 1) := by decide +kernel
theorem dX11_again_50 : decode cX11_again 50 = .ok (.getfield 14, 3) := by decide +kernel
theorem dX11_again_53 : decode cX11_again 53 = .ok (.getfield 103, 3) := by decide +kernel
theorem dX11_again_56 : decode cX11_again 56 = .ok (.ireturn, 1) := by decide +kernel
set_option maxRecDepth 20000 in
theorem ggX11_names_X4_readNames : GoodIn wsX11_names wsX4_readNames := goodIn_r _ [15, 16, 17, 18, 19, 20, 14, 21, 22, 23, 24, 25, 26, 27, 28, 29, 30, 31, 32, 33, 34, 35, 36, 37, 38, 39, 40, 41, 42, 43, 44, 45, 46, 47, 48, 49, 50, 51, 52, 53, 54, 55, 56, 57, 58, 59, 60, 61, 62, 63, 64, 65, 66, 67, 68, 69, 70, 71, 72, 73, 74, 75, 76, 77, 78, 79, 80, 81, 82, 83, 84, 85, 86, 87, 88, 89, 90, 91, 92, 93, 94, 95, 96, 97, 98, 99, 100, 101, 102, 103, 104, 105, 106, 107, 108, 109, 110, 111, 112, 113, 114, 115, 116, 117, 118, 119, 120, 121, 122, 123, 124, 125, 126, 127, 128, 129, 130, 131, 132, 133, 134, 135, 136, 137, 138, 139, 140, 141, 142, 143, 144, 145, 146, 147, 148, 149, 150, 151, 152, 153, 154, 155, 156, 157, 158, 159, 160, 161, 162, 163, 164, 165, 166, 167, 168, 169, 170, 171, 172, 173, 174, 175, 176, 177, 178, 179, 180, 181, 182, 183, 184, 185, 186, 187, 188, 189, 190, 191, 192, 231, 232, 233, 234, 235, 236, 237, 238, 239, 240, 241, 242, 243, 244, 245, 246, 247, 248] (by decide +kernel) (by decide +kernel)
set_option maxRecDepth 20000 in
theorem gX11_names_X4_readNames : GoodIn wsX11_names (wsV RX11 120 RX4 yX4_readNames wsX4_readNames) := goodIn_app (goodIn_of _ (by decide +kernel)) ggX11_names_X4_readNames
set_option maxRecDepth 20000 in
theorem ggX11_names_X0_shorten : GoodIn wsX11_names wsX0_shorten := goodIn_r _ [196, 37, 197, 246, 247, 248] (by decide +kernel) (by decide +kernel)
set_option maxRecDepth 20000 in
theorem gX11_names_X0_shorten : GoodIn wsX11_names (wsV RX11 113 RX0 yX0_shorten wsX0_shorten) := goodIn_app (goodIn_of _ (by decide +kernel)) ggX11_names_X0_shorten
theorem dX11_names_0 : decode cX11_names 0 = .ok (.aload_n 0, 1) := by decide +kernel
theorem dX11_names_1 : decode cX11_names 1 = .ok (.getfield 26, 3) := by decide +kernel
theorem dX11_names_4 : decode cX11_names 4 = .ok (.aload_n 0, 1) := by decide +kernel
theorem dX11_names_5 : decode cX11_names 5 = .ok (.getfield 81, 3) := by decide +kernel
theorem dX11_names_8 : decode cX11_names 8 = .ok (.invokevirtual 120, 3) := by decide +kernel
theorem dX11_names_11 : decode cX11_names 11 = .ok (.istore_n 1, 1) := by decide +kernel
theorem dX11_names_12 : decode cX11_names 12 = .ok (.aload_n 0, 1) := by decide +kernel
theorem dX11_names_13 : decode cX11_names 13 = .ok (.getfield 14, 3) := by decide +kernel
theorem dX11_names_16 : decode cX11_names 16 = .ok (.iconst 0, 1) := by decide +kernel
theorem dX11_names_17 : decode cX11_names 17 = .ok (.invokevirtual 113, 3) := by decide +kernel
theorem dX11_names_20 : decode cX11_names 20 = .ok (.iload_n 1, 1) := by decide +kernel
theorem dX11_names_21 : decode cX11_names 21 = .ok (.ifCond .ne 5, 3) := by decide +kernel
theorem dX11_names_24 : decode cX11_names 24 = .ok (.iconst (-1), 1) := by decide +kernel
theorem dX11_names_25 : decode cX11_names 25 = .ok (.ireturn, 1) := by decide +kernel
theorem dX11_names_26 : decode cX11_names 26 = .ok (.aload_n 0, 1) := by decide +kernel
theorem dX11_names_27 : decode cX11_names 27 = .ok (.getfield 81, 3) := by decide +kernel
theorem dX11_names_30 : decode cX11_names 30 = .ok (.astore_n 2, 1) := by decide +kernel
theorem dX11_names_31 : decode cX11_names 31 = .ok (.aload_n 0, 1) := by decide +kernel
theorem dX11_names_32 : decode cX11_names 32 = .ok (.aload_n 0, 1) := by decide +kernel
theorem dX11_names_33 : decode cX11_names 33 = .ok (.getfield 77, 3) := by decide +kernel
theorem dX11_names_36 : decode cX11_names 36 = .ok (.putfield 81, 3) := by decide +kernel
theorem dX11_names_39 : decode cX11_names 39 = .ok (.aload_n 0, 1) := by decide +kernel
theorem dX11_names_40 : decode cX11_names 40 = .ok (.aload_n 2, 1) := by decide +kernel
theorem dX11_names_41 : decode cX11_names 41 = .ok (.putfield 77, 3) := by decide +kernel
theorem dX11_names_44 : decode cX11_names 44 = .ok (.aload_n 0, 1) := by decide +kernel
theorem dX11_names_45 : decode cX11_names 45 = .ok (.getfield 40, 3) := by decide +kernel
theorem dX11_names_48 : decode cX11_names 48 = .ok (.iconst 0, 1) := by decide +kernel
theorem dX11_names_49 : decode cX11_names 49 = .ok (.putfield 124, 3) := by decide +kernel
theorem dX11_names_52 : decode cX11_names 52 = .ok (.aload_n 0, 1) := by decide +kernel
theorem dX11_names_53 : decode cX11_names 53 = .ok (.getfield 44, 3) := by decide +kernel
theorem dX11_names_56 : decode cX11_names 56 = .ok (.iconst 0, 1) := by decide +kernel
theorem dX11_names_57 : decode cX11_names 57 = .ok (.putfield 124, 3) := by decide +kernel
theorem dX11_names_60 : decode cX11_names 60 = .ok (.aload_n 0, 1) := by decide +kernel
theorem dX11_names_61 : decode cX11_names 61 = .ok (.getfield 87, 3) := by decide +kernel
theorem dX11_names_64 : decode cX11_names 64 = .ok (.invokevirtual 127, 3) := by decide +kernel
theorem dX11_names_67 : decode cX11_names 67 = .ok (.aload_n 0, 1) := by decide +kernel
theorem dX11_names_68 : decode cX11_names 68 = .ok (.getfield 70, 3) := by decide +kernel
theorem dX11_names_71 : decode cX11_names 71 = .ok (.invokevirtual 130, 3) := by decide +kernel
theorem dX11_names_74 : decode cX11_names 74 = .ok (.aload_n 0, 1) := by decide +kernel
theorem dX11_names_75 : decode cX11_names 75 = .ok (.getfield 77, 3) := by decide +kernel
theorem dX11_names_78 : decode cX11_names 78 = .ok (.getfield 133, 3) := by decide +kernel
theorem dX11_names_81 : decode cX11_names 81 = .ok (.ireturn, 1) := by decide +kernel
set_option maxRecDepth 20000 in
theorem ggX11_rows_X11_needSet : GoodIn wsX11_rows wsX11_needSet := goodIn_ca (goodIn_r _ [8, 9, 10] (by decide +kernel) (by decide +kernel)) (goodIn_sub (fun _ h => List.mem_cons_of_mem _ (List.mem_append_left _ (List.mem_append_right _ h))) (by decide +kernel))
set_option maxRecDepth 20000 in
theorem gX11_rows_X11_needSet : GoodIn wsX11_rows (va_wsS RX11 136 yX11_needSet wsX11_needSet) := goodIn_app (goodIn_of _ (by decide +kernel)) ggX11_rows_X11_needSet
set_option maxRecDepth 20000 in
theorem ggX11_rows_X11_needNames : GoodIn wsX11_rows wsX11_needNames := goodIn_ca (goodIn_r _ [14, 15, 16, 2, 17, 154, 155, 156, 157, 158, 159, 160, 161, 162, 163, 164, 165, 166, 167, 168, 169, 173, 174, 175, 176, 177] (by decide +kernel) (by decide +kernel)) (goodIn_sub (fun _ h => List.mem_cons_of_mem _ (List.mem_append_right _ h)) (by decide +kernel))
set_option maxRecDepth 20000 in
theorem gX11_rows_X11_needNames : GoodIn wsX11_rows (wsV RX11 139 RX11 yX11_needNames wsX11_needNames) := goodIn_app (goodIn_of _ (by decide +kernel)) ggX11_rows_X11_needNames
set_option maxRecDepth 20000 in
theorem ggX11_rows_X11_tableOf : GoodIn wsX11_rows wsX11_tableOf := goodIn_r _ [21, 22, 23, 154, 155, 156, 157, 158, 159, 160, 161, 162, 163, 164, 165, 166, 167, 168, 169] (by decide +kernel) (by decide +kernel)
set_option maxRecDepth 20000 in
theorem gX11_rows_X11_tableOf : GoodIn wsX11_rows (wsV RX11 142 RX11 yX11_tableOf wsX11_tableOf) := goodIn_app (goodIn_of _ (by decide +kernel)) ggX11_rows_X11_tableOf
set_option maxRecDepth 20000 in
theorem ggX11_rows_X0_shorten : GoodIn wsX11_rows wsX0_shorten := goodIn_r _ [152, 52, 153, 188, 189, 190] (by decide +kernel) (by decide +kernel)
set_option maxRecDepth 20000 in
theorem gX11_rows_X0_shorten : GoodIn wsX11_rows (wsV RX11 113 RX0 yX0_shorten wsX0_shorten) := goodIn_app (goodIn_of _ (by decide +kernel)) ggX11_rows_X0_shorten
theorem dX11_rows_0 : decode cX11_rows 0 = .ok (.iload_n 1, 1) := by decide +kernel
theorem dX11_rows_1 : decode cX11_rows 1 = .ok (.invokestatic 136, 3) := by decide +kernel
theorem dX11_rows_4 : decode cX11_rows 4 = .ok (.aload_n 0, 1) := by decide +kernel
theorem dX11_rows_5 : decode cX11_rows 5 = .ok (.invokevirtual 139, 3) := by decide +kernel
theorem dX11_rows_8 : decode cX11_rows 8 = .ok (.aload_n 0, 1) := by decide +kernel
theorem dX11_rows_9 : decode cX11_rows 9 = .ok (.iload_n 1, 1) := by decide +kernel
theorem dX11_rows_10 : decode cX11_rows 10 = .ok (.invokevirtual 142, 3) := by decide +kernel
theorem dX11_rows_13 : decode cX11_rows 13 = .ok (.astore_n 2, 1) := by decide +kernel
theorem dX11_rows_14 : decode cX11_rows 14 = .ok (.aload_n 0, 1) := by decide +kernel
theorem dX11_rows_15 : decode cX11_rows 15 = .ok (.getfield 26, 3) := by decide +kernel
theorem dX11_rows_18 : decode cX11_rows 18 = .ok (.aload_n 0, 1) := by decide +kernel
theorem dX11_rows_19 : decode cX11_rows 19 = .ok (.getfield 77, 3) := by decide +kernel
theorem dX11_rows_22 : decode cX11_rows 22 = .ok (.aload_n 2, 1) := by decide +kernel
theorem dX11_rows_23 : decode cX11_rows 23 = .ok (.invokevirtual 146, 3) := by decide +kernel
theorem dX11_rows_26 : decode cX11_rows 26 = .ok (.istore_n 3, 1) := by decide +kernel
theorem dX11_rows_27 : decode cX11_rows 27 = .ok (.aload_n 0, 1) := by decide +kernel
theorem dX11_rows_28 : decode cX11_rows 28 = .ok (.getfield 14, 3) := by decide +kernel
theorem dX11_rows_31 : decode cX11_rows 31 = .ok (.iconst 0, 1) := by decide +kernel
theorem dX11_rows_32 : decode cX11_rows 32 = .ok (.invokevirtual 113, 3) := by decide +kernel
theorem dX11_rows_35 : decode cX11_rows 35 = .ok (.iload_n 3, 1) := by decide +kernel
theorem dX11_rows_36 : decode cX11_rows 36 = .ok (.ifCond .eq 10, 3) := by decide +kernel
theorem dX11_rows_39 : decode cX11_rows 39 = .ok (.aload_n 2, 1) := by decide +kernel
theorem dX11_rows_40 : decode cX11_rows 40 = .ok (.getfield 124, 3) := by decide +kernel
theorem dX11_rows_43 : decode cX11_rows 43 = .ok (.goto 4, 3) := by decide +kernel
theorem dX11_rows_46 : decode cX11_rows 46 = .ok (.iconst (-1), 1) := by decide +kernel
theorem dX11_rows_47 : decode cX11_rows 47 = .ok (.ireturn, 1) := by decide +kernel
set_option maxRecDepth 20000 in
theorem ggX11_clear_X11_needSet : GoodIn wsX11_clear wsX11_needSet := goodIn_ca (goodIn_r _ [5, 6, 7] (by decide +kernel) (by decide +kernel)) (goodIn_sub (fun _ h => List.mem_cons_of_mem _ (List.mem_append_right _ h)) (by decide +kernel))
set_option maxRecDepth 20000 in
theorem gX11_clear_X11_needSet : GoodIn wsX11_clear (va_wsS RX11 136 yX11_needSet wsX11_needSet) := goodIn_app (goodIn_of _ (by decide +kernel)) ggX11_clear_X11_needSet
set_option maxRecDepth 20000 in
theorem ggX11_clear_X11_tableOf : GoodIn wsX11_clear wsX11_tableOf := goodIn_r _ [11, 12, 13, 17, 18, 19, 20, 21, 22, 23, 24, 25, 26, 27, 28, 29, 30, 31, 32] (by decide +kernel) (by decide +kernel)
set_option maxRecDepth 20000 in
theorem gX11_clear_X11_tableOf : GoodIn wsX11_clear (wsV RX11 142 RX11 yX11_tableOf wsX11_tableOf) := goodIn_app (goodIn_of _ (by decide +kernel)) ggX11_clear_X11_tableOf
theorem dX11_clear_0 : decode cX11_clear 0 = .ok (.iload_n 1, 1) := by decide +kernel
theorem dX11_clear_1 : decode cX11_clear 1 = .ok (.invokestatic 136, 3) := by decide +kernel
theorem dX11_clear_4 : decode cX11_clear 4 = .ok (.aload_n 0, 1) := by decide +kernel
theorem dX11_clear_5 : decode cX11_clear 5 = .ok (.iload_n 1, 1) := by decide +kernel
theorem dX11_clear_6 : decode cX11_clear 6 = .ok (.invokevirtual 142, 3) := by decide +kernel
theorem dX11_clear_9 : decode cX11_clear 9 = .ok (.astore_n 2, 1) := by decide +kernel
theorem dX11_clear_10 : decode cX11_clear 10 = .ok (.aload_n 2, 1) := by decide +kernel
theorem dX11_clear_11 : decode cX11_clear 11 = .ok (.getfield 124, 3) := by decide +kernel
theorem dX11_clear_14 : decode cX11_clear 14 = .ok (.istore_n 3, 1) := by decide +kernel
theorem dX11_clear_15 : decode cX11_clear 15 = .ok (.aload_n 2, 1) := by decide +kernel
theorem dX11_clear_16 : decode cX11_clear 16 = .ok (.iconst 0, 1) := by decide +kernel
theorem dX11_clear_17 : decode cX11_clear 17 = .ok (.putfield 124, 3) := by decide +kernel
theorem dX11_clear_20 : decode cX11_clear 20 = .ok (.iload_n 3, 1) := by decide +kernel
theorem dX11_clear_21 : decode cX11_clear 21 = .ok (.ireturn, 1) := by decide +kernel
theorem dX11_fault_0 : decode cX11_fault 0 = .ok (.iload_n 1, 1) := by decide +kernel
theorem dX11_fault_1 : decode cX11_fault 1 = .ok (.ifCond .ne 11, 3) := by decide +kernel
theorem dX11_fault_4 : decode cX11_fault 4 = .ok (.aload_n 0, 1) := by decide +kernel
theorem dX11_fault_5 : decode cX11_fault 5 = .ok (.getfield 26, 3) := by decide +kernel
theorem dX11_fault_8 : decode cX11_fault 8 = .ok (.getfield 150, 3) := by decide +kernel
theorem dX11_fault_11 : decode cX11_fault 11 = .ok (.ireturn, 1) := by decide +kernel
theorem dX11_fault_12 : decode cX11_fault 12 = .ok (.iload_n 1, 1) := by decide +kernel
theorem dX11_fault_13 : decode cX11_fault 13 = .ok (.iconst 1, 1) := by decide +kernel
theorem dX11_fault_14 : decode cX11_fault 14 = .ok (.if_icmp .ne 13, 3) := by decide +kernel
theorem dX11_fault_17 : decode cX11_fault 17 = .ok (.aload_n 0, 1) := by decide +kernel
theorem dX11_fault_18 : decode cX11_fault 18 = .ok (.getfield 26, 3) := by decide +kernel
theorem dX11_fault_21 : decode cX11_fault 21 = .ok (.getfield 153, 3) := by decide +kernel
theorem dX11_fault_24 : decode cX11_fault 24 = .ok (.goto 4, 3) := by decide +kernel
theorem dX11_fault_27 : decode cX11_fault 27 = .ok (.iconst (-1), 1) := by decide +kernel
theorem dX11_fault_28 : decode cX11_fault 28 = .ok (.ireturn, 1) := by decide +kernel
set_option maxRecDepth 20000 in
theorem ggX11_row_X11_needSet : GoodIn wsX11_row wsX11_needSet := goodIn_ca (goodIn_r _ [9, 10, 11] (by decide +kernel) (by decide +kernel)) (goodIn_sub (fun _ h => List.mem_cons_of_mem _ (List.mem_append_right _ h)) (by decide +kernel))
set_option maxRecDepth 20000 in
theorem gX11_row_X11_needSet : GoodIn wsX11_row (va_wsS RX11 136 yX11_needSet wsX11_needSet) := goodIn_app (goodIn_of _ (by decide +kernel)) ggX11_row_X11_needSet
set_option maxRecDepth 20000 in
theorem ggX11_row_X11_tableOf : GoodIn wsX11_row wsX11_tableOf := goodIn_r _ [15, 16, 17, 36, 37, 38, 39, 40, 41, 42, 43, 44, 45, 46, 47, 48, 49, 50, 51] (by decide +kernel) (by decide +kernel)
set_option maxRecDepth 20000 in
theorem gX11_row_X11_tableOf : GoodIn wsX11_row (wsV RX11 142 RX11 yX11_tableOf wsX11_tableOf) := goodIn_app (goodIn_of _ (by decide +kernel)) ggX11_row_X11_tableOf
theorem dX11_row_0 : decode cX11_row 0 = .ok (.iload_n 1, 1) := by decide +kernel
theorem dX11_row_1 : decode cX11_row 1 = .ok (.invokestatic 136, 3) := by decide +kernel
theorem dX11_row_4 : decode cX11_row 4 = .ok (.aload_n 0, 1) := by decide +kernel
theorem dX11_row_5 : decode cX11_row 5 = .ok (.iload_n 1, 1) := by decide +kernel
theorem dX11_row_6 : decode cX11_row 6 = .ok (.invokevirtual 142, 3) := by decide +kernel
theorem dX11_row_9 : decode cX11_row 9 = .ok (.astore 4, 2) := by decide +kernel
theorem dX11_row_11 : decode cX11_row 11 = .ok (.iload_n 2, 1) := by decide +kernel
theorem dX11_row_12 : decode cX11_row 12 = .ok (.ifCond .lt 27, 3) := by decide +kernel
theorem dX11_row_15 : decode cX11_row 15 = .ok (.iload_n 2, 1) := by decide +kernel
theorem dX11_row_16 : decode cX11_row 16 = .ok (.aload 4, 2) := by decide +kernel
theorem dX11_row_18 : decode cX11_row 18 = .ok (.getfield 124, 3) := by decide +kernel
theorem dX11_row_21 : decode cX11_row 21 = .ok (.if_icmp .ge 18, 3) := by decide +kernel
theorem dX11_row_24 : decode cX11_row 24 = .ok (.iload_n 3, 1) := by decide +kernel
theorem dX11_row_25 : decode cX11_row 25 = .ok (.ifCond .lt 14, 3) := by decide +kernel
theorem dX11_row_28 : decode cX11_row 28 = .ok (.iload_n 3, 1) := by decide +kernel
theorem dX11_row_29 : decode cX11_row 29 = .ok (.aload_n 0, 1) := by decide +kernel
theorem dX11_row_30 : decode cX11_row 30 = .ok (.getfield 77, 3) := by decide +kernel
theorem dX11_row_33 : decode cX11_row 33 = .ok (.getfield 133, 3) := by decide +kernel
theorem dX11_row_36 : decode cX11_row 36 = .ok (.if_icmp .le 13, 3) := by decide +kernel
theorem dX11_row_39 : decode cX11_row 39 = .ok (.new 156, 3) := by decide +kernel
theorem dX11_row_42 : decode cX11_row 42 = .ok (.dup, 1) := by decide +kernel
theorem dX11_row_43 : decode cX11_row 43 = .ok (.ldc 158, 2) := by decide +kernel
theorem dX11_row_45 : decode cX11_row 45 = .ok (.invokespecial 160, 3) := by decide +kernel
theorem dX11_row_48 : decode cX11_row 48 = .ok (.athrow, 1) := by decide +kernel
theorem dX11_row_49 : decode cX11_row 49 = .ok (.iload_n 3, 1) := by decide +kernel
theorem dX11_row_50 : decode cX11_row 50 = .ok (.aload_n 0, 1) := by decide +kernel
theorem dX11_row_51 : decode cX11_row 51 = .ok (.getfield 77, 3) := by decide +kernel
theorem dX11_row_54 : decode cX11_row 54 = .ok (.getfield 133, 3) := by decide +kernel
theorem dX11_row_57 : decode cX11_row 57 = .ok (.if_icmp .ne 12, 3) := by decide +kernel
theorem dX11_row_60 : decode cX11_row 60 = .ok (.aload 4, 2) := by decide +kernel
theorem dX11_row_62 : decode cX11_row 62 = .ok (.iload_n 2, 1) := by decide +kernel
theorem dX11_row_63 : decode cX11_row 63 = .ok (.invokevirtual 163, 3) := by decide +kernel
theorem dX11_row_66 : decode cX11_row 66 = .ok (.goto 10, 3) := by decide +kernel
theorem dX11_row_69 : decode cX11_row 69 = .ok (.aload 4, 2) := by decide +kernel
theorem dX11_row_71 : decode cX11_row 71 = .ok (.iload_n 2, 1) := by decide +kernel
theorem dX11_row_72 : decode cX11_row 72 = .ok (.iload_n 3, 1) := by decide +kernel
theorem dX11_row_73 : decode cX11_row 73 = .ok (.invokevirtual 166, 3) := by decide +kernel
theorem dX11_row_76 : decode cX11_row 76 = .ok (.ireturn, 1) := by decide +kernel
set_option maxRecDepth 20000 in
theorem ggX11_grow_X11_needManner : GoodIn wsX11_grow wsX11_needManner := goodIn_ca (goodIn_r _ [9, 10, 11] (by decide +kernel) (by decide +kernel)) (goodIn_sub (fun _ h => List.mem_cons_of_mem _ (List.mem_append_left _ (List.mem_append_right _ h))) (by decide +kernel))
set_option maxRecDepth 20000 in
theorem gX11_grow_X11_needManner : GoodIn wsX11_grow (va_wsS RX11 170 yX11_needManner wsX11_needManner) := goodIn_app (goodIn_of _ (by decide +kernel)) ggX11_grow_X11_needManner
set_option maxRecDepth 20000 in
theorem ggX11_grow_X11_needRows : GoodIn wsX11_grow wsX11_needRows := goodIn_ca (goodIn_r _ [15, 16, 17, 18, 19, 320, 321, 322, 323, 324, 325, 326, 327, 328, 329, 330, 331, 332, 333, 334, 335, 350, 351, 352] (by decide +kernel) (by decide +kernel)) (goodIn_sub (fun _ h => List.mem_cons_of_mem _ (List.mem_append_right _ h)) (by decide +kernel))
set_option maxRecDepth 20000 in
theorem gX11_grow_X11_needRows : GoodIn wsX11_grow (wsV RX11 174 RX11 yX11_needRows wsX11_needRows) := goodIn_app (goodIn_of _ (by decide +kernel)) ggX11_grow_X11_needRows
theorem dX11_grow_0 : decode cX11_grow 0 = .ok (.iload_n 1, 1) := by decide +kernel
theorem dX11_grow_1 : decode cX11_grow 1 = .ok (.iload_n 2, 1) := by decide +kernel
theorem dX11_grow_2 : decode cX11_grow 2 = .ok (.iload_n 3, 1) := by decide +kernel
theorem dX11_grow_3 : decode cX11_grow 3 = .ok (.invokestatic 170, 3) := by decide +kernel
theorem dX11_grow_6 : decode cX11_grow 6 = .ok (.aload_n 0, 1) := by decide +kernel
theorem dX11_grow_7 : decode cX11_grow 7 = .ok (.iconst 1, 1) := by decide +kernel
theorem dX11_grow_8 : decode cX11_grow 8 = .ok (.invokevirtual 174, 3) := by decide +kernel
theorem dX11_grow_11 : decode cX11_grow 11 = .ok (.aload_n 0, 1) := by decide +kernel
theorem dX11_grow_12 : decode cX11_grow 12 = .ok (.getfield 99, 3) := by decide +kernel
theorem dX11_grow_15 : decode cX11_grow 15 = .ok (.iload_n 1, 1) := by decide +kernel
theorem dX11_grow_16 : decode cX11_grow 16 = .ok (.iload_n 2, 1) := by decide +kernel
theorem dX11_grow_17 : decode cX11_grow 17 = .ok (.iload_n 3, 1) := by decide +kernel
theorem dX11_grow_18 : decode cX11_grow 18 = .ok (.invokevirtual 177, 3) := by decide +kernel
theorem dX11_grow_21 : decode cX11_grow 21 = .ok (.aload_n 0, 1) := by decide +kernel
theorem dX11_grow_22 : decode cX11_grow 22 = .ok (.getfield 99, 3) := by decide +kernel
theorem dX11_grow_25 : decode cX11_grow 25 = .ok (.iconst 1, 1) := by decide +kernel
theorem dX11_grow_26 : decode cX11_grow 26 = .ok (.iconst (-1), 1) := by decide +kernel
theorem dX11_grow_27 : decode cX11_grow 27 = .ok (.invokevirtual 180, 3) := by decide +kernel
theorem dX11_grow_30 : decode cX11_grow 30 = .ok (.aload_n 0, 1) := by decide +kernel
theorem dX11_grow_31 : decode cX11_grow 31 = .ok (.getfield 99, 3) := by decide +kernel
theorem dX11_grow_34 : decode cX11_grow 34 = .ok (.aload_n 0, 1) := by decide +kernel
theorem dX11_grow_35 : decode cX11_grow 35 = .ok (.getfield 77, 3) := by decide +kernel
theorem dX11_grow_38 : decode cX11_grow 38 = .ok (.aload_n 0, 1) := by decide +kernel
theorem dX11_grow_39 : decode cX11_grow 39 = .ok (.getfield 87, 3) := by decide +kernel
theorem dX11_grow_42 : decode cX11_grow 42 = .ok (.invokevirtual 184, 3) := by decide +kernel
theorem dX11_grow_45 : decode cX11_grow 45 = .ok (.aload_n 0, 1) := by decide +kernel
theorem dX11_grow_46 : decode cX11_grow 46 = .ok (.getfield 70, 3) := by decide +kernel
theorem dX11_grow_49 : decode cX11_grow 49 = .ok (.invokevirtual 130, 3) := by decide +kernel
theorem dX11_grow_52 : decode cX11_grow 52 = .ok (.aload_n 0, 1) := by decide +kernel
theorem dX11_grow_53 : decode cX11_grow 53 = .ok (.getfield 87, 3) := by decide +kernel
theorem dX11_grow_56 : decode cX11_grow 56 = .ok (.getfield 188, 3) := by decide +kernel
theorem dX11_grow_59 : decode cX11_grow 59 = .ok (.ireturn, 1) := by decide +kernel
set_option maxRecDepth 20000 in
theorem ggX11_tree_X11_needNames : GoodIn wsX11_tree wsX11_needNames := goodIn_ca (goodIn_r _ [13, 14, 15, 2, 16, 298, 299, 300, 301, 302, 303, 304, 305, 306, 307, 308, 309, 310, 311, 312, 313, 328, 329, 330, 331, 332] (by decide +kernel) (by decide +kernel)) (goodIn_sub (fun _ h => List.mem_cons_of_mem _ (List.mem_append_right _ h)) (by decide +kernel))
set_option maxRecDepth 20000 in
theorem gX11_tree_X11_needNames : GoodIn wsX11_tree (wsV RX11 139 RX11 yX11_needNames wsX11_needNames) := goodIn_app (goodIn_of _ (by decide +kernel)) ggX11_tree_X11_needNames
set_option maxRecDepth 20000 in
theorem ggX11_tree_X0_shorten : GoodIn wsX11_tree wsX0_shorten := goodIn_r _ [247, 44, 248, 343, 344, 345] (by decide +kernel) (by decide +kernel)
set_option maxRecDepth 20000 in
theorem gX11_tree_X0_shorten : GoodIn wsX11_tree (wsV RX11 113 RX0 yX0_shorten wsX0_shorten) := goodIn_app (goodIn_of _ (by decide +kernel)) ggX11_tree_X0_shorten
theorem dX11_tree_0 : decode cX11_tree 0 = .ok (.aload_n 0, 1) := by decide +kernel
theorem dX11_tree_1 : decode cX11_tree 1 = .ok (.invokevirtual 139, 3) := by decide +kernel
theorem dX11_tree_4 : decode cX11_tree 4 = .ok (.aload_n 0, 1) := by decide +kernel
theorem dX11_tree_5 : decode cX11_tree 5 = .ok (.getfield 26, 3) := by decide +kernel
theorem dX11_tree_8 : decode cX11_tree 8 = .ok (.aload_n 0, 1) := by decide +kernel
theorem dX11_tree_9 : decode cX11_tree 9 = .ok (.getfield 77, 3) := by decide +kernel
theorem dX11_tree_12 : decode cX11_tree 12 = .ok (.aload_n 0, 1) := by decide +kernel
theorem dX11_tree_13 : decode cX11_tree 13 = .ok (.getfield 91, 3) := by decide +kernel
theorem dX11_tree_16 : decode cX11_tree 16 = .ok (.invokevirtual 191, 3) := by decide +kernel
theorem dX11_tree_19 : decode cX11_tree 19 = .ok (.istore_n 1, 1) := by decide +kernel
theorem dX11_tree_20 : decode cX11_tree 20 = .ok (.aload_n 0, 1) := by decide +kernel
theorem dX11_tree_21 : decode cX11_tree 21 = .ok (.getfield 14, 3) := by decide +kernel
theorem dX11_tree_24 : decode cX11_tree 24 = .ok (.iconst 0, 1) := by decide +kernel
theorem dX11_tree_25 : decode cX11_tree 25 = .ok (.invokevirtual 113, 3) := by decide +kernel
theorem dX11_tree_28 : decode cX11_tree 28 = .ok (.aload_n 0, 1) := by decide +kernel
theorem dX11_tree_29 : decode cX11_tree 29 = .ok (.getfield 70, 3) := by decide +kernel
theorem dX11_tree_32 : decode cX11_tree 32 = .ok (.invokevirtual 130, 3) := by decide +kernel
theorem dX11_tree_35 : decode cX11_tree 35 = .ok (.iload_n 1, 1) := by decide +kernel
theorem dX11_tree_36 : decode cX11_tree 36 = .ok (.ifCond .ne 5, 3) := by decide +kernel
theorem dX11_tree_39 : decode cX11_tree 39 = .ok (.iconst (-1), 1) := by decide +kernel
theorem dX11_tree_40 : decode cX11_tree 40 = .ok (.ireturn, 1) := by decide +kernel
theorem dX11_tree_41 : decode cX11_tree 41 = .ok (.aload_n 0, 1) := by decide +kernel
theorem dX11_tree_42 : decode cX11_tree 42 = .ok (.getfield 91, 3) := by decide +kernel
theorem dX11_tree_45 : decode cX11_tree 45 = .ok (.astore_n 2, 1) := by decide +kernel
theorem dX11_tree_46 : decode cX11_tree 46 = .ok (.aload_n 0, 1) := by decide +kernel
theorem dX11_tree_47 : decode cX11_tree 47 = .ok (.aload_n 0, 1) := by decide +kernel
theorem dX11_tree_48 : decode cX11_tree 48 = .ok (.getfield 87, 3) := by decide +kernel
theorem dX11_tree_51 : decode cX11_tree 51 = .ok (.putfield 91, 3) := by decide +kernel
theorem dX11_tree_54 : decode cX11_tree 54 = .ok (.aload_n 0, 1) := by decide +kernel
theorem dX11_tree_55 : decode cX11_tree 55 = .ok (.aload_n 2, 1) := by decide +kernel
theorem dX11_tree_56 : decode cX11_tree 56 = .ok (.putfield 87, 3) := by decide +kernel
theorem dX11_tree_59 : decode cX11_tree 59 = .ok (.aload_n 0, 1) := by decide +kernel
theorem dX11_tree_60 : decode cX11_tree 60 = .ok (.getfield 87, 3) := by decide +kernel
theorem dX11_tree_63 : decode cX11_tree 63 = .ok (.invokevirtual 195, 3) := by decide +kernel
theorem dX11_tree_66 : decode cX11_tree 66 = .ok (.aload_n 0, 1) := by decide +kernel
theorem dX11_tree_67 : decode cX11_tree 67 = .ok (.getfield 87, 3) := by decide +kernel
theorem dX11_tree_70 : decode cX11_tree 70 = .ok (.aload_n 0, 1) := by decide +kernel
theorem dX11_tree_71 : decode cX11_tree 71 = .ok (.getfield 40, 3) := by decide +kernel
theorem dX11_tree_74 : decode cX11_tree 74 = .ok (.invokevirtual 198, 3) := by decide +kernel
theorem dX11_tree_77 : decode cX11_tree 77 = .ok (.aload_n 0, 1) := by decide +kernel
theorem dX11_tree_78 : decode cX11_tree 78 = .ok (.getfield 87, 3) := by decide +kernel
theorem dX11_tree_81 : decode cX11_tree 81 = .ok (.getfield 188, 3) := by decide +kernel
theorem dX11_tree_84 : decode cX11_tree 84 = .ok (.ireturn, 1) := by decide +kernel
set_option maxRecDepth 20000 in
theorem ggX11_prune_X11_needTree : GoodIn wsX11_prune wsX11_needTree := goodIn_ca (goodIn_r _ [8, 9, 10, 2, 11, 87, 88, 89, 90, 91, 92, 93, 94, 95, 96, 97, 98, 99, 100, 101, 102, 103, 104, 105, 106, 107, 108, 109, 110, 111, 112, 113, 114, 115, 116] (by decide +kernel) (by decide +kernel)) (goodIn_sub (fun _ h => List.mem_cons_of_mem _ (List.mem_append_right _ h)) (by decide +kernel))
set_option maxRecDepth 20000 in
theorem gX11_prune_X11_needTree : GoodIn wsX11_prune (wsV RX11 202 RX11 yX11_needTree wsX11_needTree) := goodIn_app (goodIn_of _ (by decide +kernel)) ggX11_prune_X11_needTree
theorem dX11_prune_0 : decode cX11_prune 0 = .ok (.aload_n 0, 1) := by decide +kernel
theorem dX11_prune_1 : decode cX11_prune 1 = .ok (.invokevirtual 202, 3) := by decide +kernel
theorem dX11_prune_4 : decode cX11_prune 4 = .ok (.aload_n 0, 1) := by decide +kernel
theorem dX11_prune_5 : decode cX11_prune 5 = .ok (.getfield 70, 3) := by decide +kernel
theorem dX11_prune_8 : decode cX11_prune 8 = .ok (.invokevirtual 130, 3) := by decide +kernel
theorem dX11_prune_11 : decode cX11_prune 11 = .ok (.aload_n 0, 1) := by decide +kernel
theorem dX11_prune_12 : decode cX11_prune 12 = .ok (.getfield 87, 3) := by decide +kernel
theorem dX11_prune_15 : decode cX11_prune 15 = .ok (.aload_n 0, 1) := by decide +kernel
theorem dX11_prune_16 : decode cX11_prune 16 = .ok (.getfield 44, 3) := by decide +kernel
theorem dX11_prune_19 : decode cX11_prune 19 = .ok (.invokevirtual 205, 3) := by decide +kernel
theorem dX11_prune_22 : decode cX11_prune 22 = .ok (.ireturn, 1) := by decide +kernel
set_option maxRecDepth 20000 in
theorem ggX11_node_X11_needTree : GoodIn wsX11_node wsX11_needTree := goodIn_ca (goodIn_r _ [12, 13, 14, 3, 15, 37, 38, 39, 40, 41, 42, 43, 44, 45, 46, 47, 48, 49, 50, 51, 52, 53, 54, 55, 56, 57, 58, 59, 60, 61, 62, 63, 64, 65, 66] (by decide +kernel) (by decide +kernel)) (goodIn_sub (fun _ h => List.mem_cons_of_mem _ (List.mem_append_right _ h)) (by decide +kernel))
set_option maxRecDepth 20000 in
theorem gX11_node_X11_needTree : GoodIn wsX11_node (wsV RX11 202 RX11 yX11_needTree wsX11_needTree) := goodIn_app (goodIn_of _ (by decide +kernel)) ggX11_node_X11_needTree
theorem dX11_node_0 : decode cX11_node 0 = .ok (.aload_n 0, 1) := by decide +kernel
theorem dX11_node_1 : decode cX11_node 1 = .ok (.invokevirtual 202, 3) := by decide +kernel
theorem dX11_node_4 : decode cX11_node 4 = .ok (.aload_n 0, 1) := by decide +kernel
theorem dX11_node_5 : decode cX11_node 5 = .ok (.iload_n 1, 1) := by decide +kernel
theorem dX11_node_6 : decode cX11_node 6 = .ok (.invokevirtual 209, 3) := by decide +kernel
theorem dX11_node_9 : decode cX11_node 9 = .ok (.iload_n 2, 1) := by decide +kernel
theorem dX11_node_10 : decode cX11_node 10 = .ok (.bipush 10, 2) := by decide +kernel
theorem dX11_node_12 : decode cX11_node 12 = .ok (.isub, 1) := by decide +kernel
theorem dX11_node_13 : decode cX11_node 13 = .ok (.istore_n 3, 1) := by decide +kernel
theorem dX11_node_14 : decode cX11_node 14 = .ok (.iload_n 3, 1) := by decide +kernel
theorem dX11_node_15 : decode cX11_node 15 = .ok (.ifCond .lt 26, 3) := by decide +kernel
theorem dX11_node_18 : decode cX11_node 18 = .ok (.iload_n 3, 1) := by decide +kernel
theorem dX11_node_19 : decode cX11_node 19 = .ok (.aload_n 0, 1) := by decide +kernel
theorem dX11_node_20 : decode cX11_node 20 = .ok (.getfield 87, 3) := by decide +kernel
theorem dX11_node_23 : decode cX11_node 23 = .ok (.getfield 212, 3) := by decide +kernel
theorem dX11_node_26 : decode cX11_node 26 = .ok (.iload_n 1, 1) := by decide +kernel
theorem dX11_node_27 : decode cX11_node 27 = .ok (.iaload, 1) := by decide +kernel
theorem dX11_node_28 : decode cX11_node 28 = .ok (.if_icmp .ge 13, 3) := by decide +kernel
theorem dX11_node_31 : decode cX11_node 31 = .ok (.aload_n 0, 1) := by decide +kernel
theorem dX11_node_32 : decode cX11_node 32 = .ok (.getfield 87, 3) := by decide +kernel
theorem dX11_node_35 : decode cX11_node 35 = .ok (.iload_n 1, 1) := by decide +kernel
theorem dX11_node_36 : decode cX11_node 36 = .ok (.iload_n 3, 1) := by decide +kernel
theorem dX11_node_37 : decode cX11_node 37 = .ok (.invokevirtual 216, 3) := by decide +kernel
theorem dX11_node_40 : decode cX11_node 40 = .ok (.ireturn, 1) := by decide +kernel
theorem dX11_node_41 : decode cX11_node 41 = .ok (.iload_n 2, 1) := by decide +kernel
theorem dX11_node_42 : decode cX11_node 42 = .ok (.bipush 20, 2) := by decide +kernel
theorem dX11_node_44 : decode cX11_node 44 = .ok (.isub, 1) := by decide +kernel
theorem dX11_node_45 : decode cX11_node 45 = .ok (.istore 4, 2) := by decide +kernel
theorem dX11_node_47 : decode cX11_node 47 = .ok (.iload 4, 2) := by decide +kernel
theorem dX11_node_49 : decode cX11_node 49 = .ok (.ifCond .lt 31, 3) := by decide +kernel
theorem dX11_node_52 : decode cX11_node 52 = .ok (.iload 4, 2) := by decide +kernel
theorem dX11_node_54 : decode cX11_node 54 = .ok (.aload_n 0, 1) := by decide +kernel
theorem dX11_node_55 : decode cX11_node 55 = .ok (.getfield 77, 3) := by decide +kernel
theorem dX11_node_58 : decode cX11_node 58 = .ok (.getfield 219, 3) := by decide +kernel
theorem dX11_node_61 : decode cX11_node 61 = .ok (.if_icmp .ge 19, 3) := by decide +kernel
theorem dX11_node_64 : decode cX11_node 64 = .ok (.aload_n 0, 1) := by decide +kernel
theorem dX11_node_65 : decode cX11_node 65 = .ok (.getfield 87, 3) := by decide +kernel
theorem dX11_node_68 : decode cX11_node 68 = .ok (.getfield 222, 3) := by decide +kernel
theorem dX11_node_71 : decode cX11_node 71 = .ok (.iload_n 1, 1) := by decide +kernel
theorem dX11_node_72 : decode cX11_node 72 = .ok (.bipush 6, 2) := by decide +kernel
theorem dX11_node_74 : decode cX11_node 74 = .ok (.imul, 1) := by decide +kernel
theorem dX11_node_75 : decode cX11_node 75 = .ok (.iload 4, 2) := by decide +kernel
theorem dX11_node_77 : decode cX11_node 77 = .ok (.iadd, 1) := by decide +kernel
theorem dX11_node_78 : decode cX11_node 78 = .ok (.iaload, 1) := by decide +kernel
theorem dX11_node_79 : decode cX11_node 79 = .ok (.ireturn, 1) := by decide +kernel
theorem dX11_node_80 : decode cX11_node 80 = .ok (.iload_n 2, 1) := by decide +kernel
theorem dX11_node_81 : decode cX11_node 81 = .ok (.ifCond .lt 8, 3) := by decide +kernel
theorem dX11_node_84 : decode cX11_node 84 = .ok (.iload_n 2, 1) := by decide +kernel
theorem dX11_node_85 : decode cX11_node 85 = .ok (.iconst 5, 1) := by decide +kernel
theorem dX11_node_86 : decode cX11_node 86 = .ok (.if_icmp .le 13, 3) := by decide +kernel
theorem dX11_node_89 : decode cX11_node 89 = .ok (.new 156, 3) := by decide +kernel
theorem dX11_node_92 : decode cX11_node 92 = .ok (.dup, 1) := by decide +kernel
theorem dX11_node_93 : decode cX11_node 93 = .ok (.ldc 225, 2) := by decide +kernel
theorem dX11_node_95 : decode cX11_node 95 = .ok (.invokespecial 160, 3) := by decide +kernel
theorem dX11_node_98 : decode cX11_node 98 = .ok (.athrow, 1) := by decide +kernel
theorem dX11_node_99 : decode cX11_node 99 = .ok (.aload_n 0, 1) := by decide +kernel
theorem dX11_node_100 : decode cX11_node 100 = .ok (.getfield 87, 3) := by decide +kernel
theorem dX11_node_103 : decode cX11_node 103 = .ok (.iload_n 1, 1) := by decide +kernel
theorem dX11_node_104 : decode cX11_node 104 = .ok (.iload_n 2, 1) := by decide +kernel
theorem dX11_node_105 : decode cX11_node 105 = .ok (.invokevirtual 227, 3) := by decide +kernel
theorem dX11_node_108 : decode cX11_node 108 = .ok (.ireturn, 1) := by decide +kernel
set_option maxRecDepth 20000 in
theorem ggX11_compare_X11_needNodeWithRows : GoodIn wsX11_compare wsX11_needNodeWithRows := goodIn_ca (goodIn_ca (goodIn_r _ [8, 9, 10, 11, 12, 13, 14, 15, 16, 7, 17, 18, 19, 20, 21, 22, 23, 24, 25, 26, 27, 28, 29, 30, 31, 32, 33, 34, 35, 36, 37, 38, 39, 40, 41, 42, 43, 44, 45, 46, 47, 48, 49, 50, 51, 52, 53, 174, 175, 176, 177, 178, 179, 180, 181, 182, 183, 184, 185, 186, 187, 188, 189, 190, 191, 192, 193, 194, 195, 196, 197, 198, 199, 200, 201, 202, 203, 204, 205, 206] (by decide +kernel) (by decide +kernel)) (goodIn_sub (fun _ h => List.mem_cons_of_mem _ (List.mem_append_left _ (List.mem_append_right _ h))) (by decide +kernel))) (goodIn_sub (fun _ h => List.mem_cons_of_mem _ (List.mem_append_right _ h)) (by decide +kernel))
set_option maxRecDepth 20000 in
theorem gX11_compare_X11_needNodeWithRows : GoodIn wsX11_compare (wsV RX11 230 RX11 yX11_needNodeWithRows wsX11_needNodeWithRows) := goodIn_app (goodIn_of _ (by decide +kernel)) ggX11_compare_X11_needNodeWithRows
theorem dX11_compare_0 : decode cX11_compare 0 = .ok (.aload_n 0, 1) := by decide +kernel
theorem dX11_compare_1 : decode cX11_compare 1 = .ok (.iload_n 1, 1) := by decide +kernel
theorem dX11_compare_2 : decode cX11_compare 2 = .ok (.invokevirtual 230, 3) := by decide +kernel
theorem dX11_compare_5 : decode cX11_compare 5 = .ok (.aload_n 0, 1) := by decide +kernel
theorem dX11_compare_6 : decode cX11_compare 6 = .ok (.iload_n 2, 1) := by decide +kernel
theorem dX11_compare_7 : decode cX11_compare 7 = .ok (.invokevirtual 233, 3) := by decide +kernel
theorem dX11_compare_10 : decode cX11_compare 10 = .ok (.aload_n 0, 1) := by decide +kernel
theorem dX11_compare_11 : decode cX11_compare 11 = .ok (.iload 4, 2) := by decide +kernel
theorem dX11_compare_13 : decode cX11_compare 13 = .ok (.invokevirtual 233, 3) := by decide +kernel
theorem dX11_compare_16 : decode cX11_compare 16 = .ok (.aload_n 0, 1) := by decide +kernel
theorem dX11_compare_17 : decode cX11_compare 17 = .ok (.aload_n 0, 1) := by decide +kernel
theorem dX11_compare_18 : decode cX11_compare 18 = .ok (.getfield 60, 3) := by decide +kernel
theorem dX11_compare_21 : decode cX11_compare 21 = .ok (.iload_n 1, 1) := by decide +kernel
theorem dX11_compare_22 : decode cX11_compare 22 = .ok (.iload_n 2, 1) := by decide +kernel
theorem dX11_compare_23 : decode cX11_compare 23 = .ok (.iload_n 3, 1) := by decide +kernel
theorem dX11_compare_24 : decode cX11_compare 24 = .ok (.invokevirtual 236, 3) := by decide +kernel
theorem dX11_compare_27 : decode cX11_compare 27 = .ok (.aload_n 0, 1) := by decide +kernel
theorem dX11_compare_28 : decode cX11_compare 28 = .ok (.aload_n 0, 1) := by decide +kernel
theorem dX11_compare_29 : decode cX11_compare 29 = .ok (.getfield 64, 3) := by decide +kernel
theorem dX11_compare_32 : decode cX11_compare 32 = .ok (.iload_n 1, 1) := by decide +kernel
theorem dX11_compare_33 : decode cX11_compare 33 = .ok (.iload 4, 2) := by decide +kernel
theorem dX11_compare_35 : decode cX11_compare 35 = .ok (.iload 5, 2) := by decide +kernel
theorem dX11_compare_37 : decode cX11_compare 37 = .ok (.invokevirtual 236, 3) := by decide +kernel
theorem dX11_compare_40 : decode cX11_compare 40 = .ok (.aload_n 0, 1) := by decide +kernel
theorem dX11_compare_41 : decode cX11_compare 41 = .ok (.getfield 53, 3) := by decide +kernel
theorem dX11_compare_44 : decode cX11_compare 44 = .ok (.iconst 0, 1) := by decide +kernel
theorem dX11_compare_45 : decode cX11_compare 45 = .ok (.aload_n 0, 1) := by decide +kernel
theorem dX11_compare_46 : decode cX11_compare 46 = .ok (.getfield 60, 3) := by decide +kernel
theorem dX11_compare_49 : decode cX11_compare 49 = .ok (.aload_n 0, 1) := by decide +kernel
theorem dX11_compare_50 : decode cX11_compare 50 = .ok (.getfield 64, 3) := by decide +kernel
theorem dX11_compare_53 : decode cX11_compare 53 = .ok (.invokevirtual 240, 3) := by decide +kernel
theorem dX11_compare_56 : decode cX11_compare 56 = .ok (.ireturn, 1) := by decide +kernel
set_option maxRecDepth 20000 in
theorem ggX11_gain_X11_needNodeWithRows : GoodIn wsX11_gain wsX11_needNodeWithRows := goodIn_ca (goodIn_ca (goodIn_r _ [9, 10, 11, 12, 13, 14, 15, 16, 17, 8, 18, 19, 20, 21, 22, 23, 1, 2, 24, 25, 26, 27, 28, 29, 30, 31, 32, 33, 34, 35, 36, 37, 38, 39, 40, 41, 42, 43, 44, 45, 46, 47, 48, 49, 50, 51, 52, 127, 128, 129, 130, 131, 132, 133, 134, 135, 136, 137, 138, 139, 140, 141, 142, 143, 144, 145, 146, 147, 148, 149, 150, 151, 152, 153, 154, 155, 156, 157, 158, 159] (by decide +kernel) (by decide +kernel)) (goodIn_sub (fun _ h => List.mem_cons_of_mem _ (List.mem_append_right _ h)) (by decide +kernel))) (goodIn_sub (fun _ h => List.mem_cons_of_mem _ (List.mem_append_left _ (List.mem_append_right _ h))) (by decide +kernel))
set_option maxRecDepth 20000 in
theorem gX11_gain_X11_needNodeWithRows : GoodIn wsX11_gain (wsV RX11 230 RX11 yX11_needNodeWithRows wsX11_needNodeWithRows) := goodIn_app (goodIn_of _ (by decide +kernel)) ggX11_gain_X11_needNodeWithRows
theorem dX11_gain_0 : decode cX11_gain 0 = .ok (.aload_n 0, 1) := by decide +kernel
theorem dX11_gain_1 : decode cX11_gain 1 = .ok (.iload_n 1, 1) := by decide +kernel
theorem dX11_gain_2 : decode cX11_gain 2 = .ok (.invokevirtual 230, 3) := by decide +kernel
theorem dX11_gain_5 : decode cX11_gain 5 = .ok (.aload_n 0, 1) := by decide +kernel
theorem dX11_gain_6 : decode cX11_gain 6 = .ok (.iload_n 2, 1) := by decide +kernel
theorem dX11_gain_7 : decode cX11_gain 7 = .ok (.invokevirtual 233, 3) := by decide +kernel
theorem dX11_gain_10 : decode cX11_gain 10 = .ok (.iload 4, 2) := by decide +kernel
theorem dX11_gain_12 : decode cX11_gain 12 = .ok (.ifCond .eq 19, 3) := by decide +kernel
theorem dX11_gain_15 : decode cX11_gain 15 = .ok (.iload 4, 2) := by decide +kernel
theorem dX11_gain_17 : decode cX11_gain 17 = .ok (.iconst 1, 1) := by decide +kernel
theorem dX11_gain_18 : decode cX11_gain 18 = .ok (.if_icmp .eq 13, 3) := by decide +kernel
theorem dX11_gain_21 : decode cX11_gain 21 = .ok (.new 156, 3) := by decide +kernel
theorem dX11_gain_24 : decode cX11_gain 24 = .ok (.dup, 1) := by decide +kernel
theorem dX11_gain_25 : decode cX11_gain 25 = .ok (.ldc 244, 2) := by decide +kernel
theorem dX11_gain_27 : decode cX11_gain 27 = .ok (.invokespecial 160, 3) := by decide +kernel
theorem dX11_gain_30 : decode cX11_gain 30 = .ok (.athrow, 1) := by decide +kernel
theorem dX11_gain_31 : decode cX11_gain 31 = .ok (.aload_n 0, 1) := by decide +kernel
theorem dX11_gain_32 : decode cX11_gain 32 = .ok (.aload_n 0, 1) := by decide +kernel
theorem dX11_gain_33 : decode cX11_gain 33 = .ok (.getfield 60, 3) := by decide +kernel
theorem dX11_gain_36 : decode cX11_gain 36 = .ok (.iload_n 1, 1) := by decide +kernel
theorem dX11_gain_37 : decode cX11_gain 37 = .ok (.iload_n 2, 1) := by decide +kernel
theorem dX11_gain_38 : decode cX11_gain 38 = .ok (.iload_n 3, 1) := by decide +kernel
theorem dX11_gain_39 : decode cX11_gain 39 = .ok (.invokevirtual 236, 3) := by decide +kernel
theorem dX11_gain_42 : decode cX11_gain 42 = .ok (.iload 4, 2) := by decide +kernel
theorem dX11_gain_44 : decode cX11_gain 44 = .ok (.ifCond .ne 17, 3) := by decide +kernel
theorem dX11_gain_47 : decode cX11_gain 47 = .ok (.aload_n 0, 1) := by decide +kernel
theorem dX11_gain_48 : decode cX11_gain 48 = .ok (.getfield 53, 3) := by decide +kernel
theorem dX11_gain_51 : decode cX11_gain 51 = .ok (.aload_n 0, 1) := by decide +kernel
theorem dX11_gain_52 : decode cX11_gain 52 = .ok (.getfield 60, 3) := by decide +kernel
theorem dX11_gain_55 : decode cX11_gain 55 = .ok (.invokevirtual 246, 3) := by decide +kernel
theorem dX11_gain_58 : decode cX11_gain 58 = .ok (.goto 14, 3) := by decide +kernel
theorem dX11_gain_61 : decode cX11_gain 61 = .ok (.aload_n 0, 1) := by decide +kernel
theorem dX11_gain_62 : decode cX11_gain 62 = .ok (.getfield 53, 3) := by decide +kernel
theorem dX11_gain_65 : decode cX11_gain 65 = .ok (.aload_n 0, 1) := by decide +kernel
theorem dX11_gain_66 : decode cX11_gain 66 = .ok (.getfield 60, 3) := by decide +kernel
theorem dX11_gain_69 : decode cX11_gain 69 = .ok (.invokevirtual 250, 3) := by decide +kernel
theorem dX11_gain_72 : decode cX11_gain 72 = .ok (.l2i, 1) := by decide +kernel
theorem dX11_gain_73 : decode cX11_gain 73 = .ok (.ireturn, 1) := by decide +kernel
set_option maxRecDepth 20000 in
theorem ggX11_decide_X11_needWay : GoodIn wsX11_decide wsX11_needWay := goodIn_ca (goodIn_r _ [8, 9, 10] (by decide +kernel) (by decide +kernel)) (goodIn_sub (fun _ h => List.mem_cons_of_mem _ (List.mem_append_left _ (List.mem_append_right _ h))) (by decide +kernel))
set_option maxRecDepth 20000 in
theorem gX11_decide_X11_needWay : GoodIn wsX11_decide (va_wsS RX11 253 yX11_needWay wsX11_needWay) := goodIn_app (goodIn_of _ (by decide +kernel)) ggX11_decide_X11_needWay
set_option maxRecDepth 20000 in
theorem ggX11_decide_X11_needDecider : GoodIn wsX11_decide wsX11_needDecider := goodIn_ca (goodIn_r _ [14, 15, 16, 17, 18, 19, 20, 21, 7, 22, 23, 24, 204, 205, 206, 207, 208, 209, 210, 211, 212, 213, 214, 215, 216, 217, 218, 219, 220, 221, 222, 223, 224, 225, 226, 227, 228, 229, 230, 231, 232, 233, 234, 235, 236, 237, 238, 239, 240, 241, 242, 243, 244, 245, 246, 247, 248, 249, 250, 251] (by decide +kernel) (by decide +kernel)) (goodIn_sub (fun _ h => List.mem_cons_of_mem _ (List.mem_append_right _ h)) (by decide +kernel))
set_option maxRecDepth 20000 in
theorem gX11_decide_X11_needDecider : GoodIn wsX11_decide (wsV RX11 256 RX11 yX11_needDecider wsX11_needDecider) := goodIn_app (goodIn_of _ (by decide +kernel)) ggX11_decide_X11_needDecider
set_option maxRecDepth 20000 in
theorem ggX11_decide_X0_shorten : GoodIn wsX11_decide wsX0_shorten := goodIn_r _ [143, 51, 144, 267, 268, 269] (by decide +kernel) (by decide +kernel)
set_option maxRecDepth 20000 in
theorem gX11_decide_X0_shorten : GoodIn wsX11_decide (wsV RX11 113 RX0 yX0_shorten wsX0_shorten) := goodIn_app (goodIn_of _ (by decide +kernel)) ggX11_decide_X0_shorten
theorem dX11_decide_0 : decode cX11_decide 0 = .ok (.iload_n 1, 1) := by decide +kernel
theorem dX11_decide_1 : decode cX11_decide 1 = .ok (.invokestatic 253, 3) := by decide +kernel
theorem dX11_decide_4 : decode cX11_decide 4 = .ok (.aload_n 0, 1) := by decide +kernel
theorem dX11_decide_5 : decode cX11_decide 5 = .ok (.iload_n 1, 1) := by decide +kernel
theorem dX11_decide_6 : decode cX11_decide 6 = .ok (.invokevirtual 256, 3) := by decide +kernel
theorem dX11_decide_9 : decode cX11_decide 9 = .ok (.aload_n 0, 1) := by decide +kernel
theorem dX11_decide_10 : decode cX11_decide 10 = .ok (.getfield 26, 3) := by decide +kernel
theorem dX11_decide_13 : decode cX11_decide 13 = .ok (.aload_n 0, 1) := by decide +kernel
theorem dX11_decide_14 : decode cX11_decide 14 = .ok (.getfield 77, 3) := by decide +kernel
theorem dX11_decide_17 : decode cX11_decide 17 = .ok (.aload_n 0, 1) := by decide +kernel
theorem dX11_decide_18 : decode cX11_decide 18 = .ok (.getfield 47, 3) := by decide +kernel
theorem dX11_decide_21 : decode cX11_decide 21 = .ok (.invokevirtual 259, 3) := by decide +kernel
theorem dX11_decide_24 : decode cX11_decide 24 = .ok (.istore_n 2, 1) := by decide +kernel
theorem dX11_decide_25 : decode cX11_decide 25 = .ok (.aload_n 0, 1) := by decide +kernel
theorem dX11_decide_26 : decode cX11_decide 26 = .ok (.getfield 14, 3) := by decide +kernel
theorem dX11_decide_29 : decode cX11_decide 29 = .ok (.iconst 0, 1) := by decide +kernel
theorem dX11_decide_30 : decode cX11_decide 30 = .ok (.invokevirtual 113, 3) := by decide +kernel
theorem dX11_decide_33 : decode cX11_decide 33 = .ok (.iload_n 2, 1) := by decide +kernel
theorem dX11_decide_34 : decode cX11_decide 34 = .ok (.ifCond .eq 16, 3) := by decide +kernel
theorem dX11_decide_37 : decode cX11_decide 37 = .ok (.aload_n 0, 1) := by decide +kernel
theorem dX11_decide_38 : decode cX11_decide 38 = .ok (.iload_n 1, 1) := by decide +kernel
theorem dX11_decide_39 : decode cX11_decide 39 = .ok (.aload_n 0, 1) := by decide +kernel
theorem dX11_decide_40 : decode cX11_decide 40 = .ok (.getfield 47, 3) := by decide +kernel
theorem dX11_decide_43 : decode cX11_decide 43 = .ok (.iconst 0, 1) := by decide +kernel
theorem dX11_decide_44 : decode cX11_decide 44 = .ok (.invokevirtual 262, 3) := by decide +kernel
theorem dX11_decide_47 : decode cX11_decide 47 = .ok (.goto 4, 3) := by decide +kernel
theorem dX11_decide_50 : decode cX11_decide 50 = .ok (.iconst (-1), 1) := by decide +kernel
theorem dX11_decide_51 : decode cX11_decide 51 = .ok (.ireturn, 1) := by decide +kernel
set_option maxRecDepth 20000 in
theorem ggX11_tried_X11_needSet : GoodIn wsX11_tried wsX11_needSet := goodIn_ca (goodIn_r _ [5, 6, 7] (by decide +kernel) (by decide +kernel)) (goodIn_sub (fun _ h => List.mem_cons_of_mem _ (List.mem_append_left _ (List.mem_append_right _ h))) (by decide +kernel))
set_option maxRecDepth 20000 in
theorem gX11_tried_X11_needSet : GoodIn wsX11_tried (va_wsS RX11 136 yX11_needSet wsX11_needSet) := goodIn_app (goodIn_of _ (by decide +kernel)) ggX11_tried_X11_needSet
set_option maxRecDepth 20000 in
theorem ggX11_tried_X11_needWay : GoodIn wsX11_tried wsX11_needWay := goodIn_ca (goodIn_r _ [10, 6, 7] (by decide +kernel) (by decide +kernel)) (goodIn_sub (fun _ h => List.mem_cons_of_mem _ (List.mem_append_left _ (List.mem_append_right _ h))) (by decide +kernel))
set_option maxRecDepth 20000 in
theorem gX11_tried_X11_needWay : GoodIn wsX11_tried (va_wsS RX11 253 yX11_needWay wsX11_needWay) := goodIn_app (goodIn_of _ (by decide +kernel)) ggX11_tried_X11_needWay
set_option maxRecDepth 20000 in
theorem ggX11_tried_X11_needDecider : GoodIn wsX11_tried wsX11_needDecider := goodIn_ca (goodIn_r _ [14, 15, 16, 17, 18, 19, 20, 21, 4, 22, 23, 24, 104, 105, 106, 107, 108, 109, 110, 111, 112, 113, 114, 115, 116, 117, 118, 119, 120, 121, 122, 123, 124, 125, 126, 127, 128, 129, 130, 131, 132, 133, 134, 135, 136, 137, 138, 139, 140, 141, 142, 143, 144, 145, 146, 147, 148, 149, 150, 151] (by decide +kernel) (by decide +kernel)) (goodIn_sub (fun _ h => List.mem_cons_of_mem _ (List.mem_append_right _ h)) (by decide +kernel))
set_option maxRecDepth 20000 in
theorem gX11_tried_X11_needDecider : GoodIn wsX11_tried (wsV RX11 256 RX11 yX11_needDecider wsX11_needDecider) := goodIn_app (goodIn_of _ (by decide +kernel)) ggX11_tried_X11_needDecider
set_option maxRecDepth 20000 in
theorem ggX11_tried_X11_tableOf : GoodIn wsX11_tried wsX11_tableOf := goodIn_r _ [28, 29, 30, 104, 105, 106, 107, 108, 109, 110, 111, 112, 113, 114, 115, 116, 117, 118, 119] (by decide +kernel) (by decide +kernel)
set_option maxRecDepth 20000 in
theorem gX11_tried_X11_tableOf : GoodIn wsX11_tried (wsV RX11 142 RX11 yX11_tableOf wsX11_tableOf) := goodIn_app (goodIn_of _ (by decide +kernel)) ggX11_tried_X11_tableOf
theorem dX11_tried_0 : decode cX11_tried 0 = .ok (.iload_n 1, 1) := by decide +kernel
theorem dX11_tried_1 : decode cX11_tried 1 = .ok (.invokestatic 136, 3) := by decide +kernel
theorem dX11_tried_4 : decode cX11_tried 4 = .ok (.iload_n 2, 1) := by decide +kernel
theorem dX11_tried_5 : decode cX11_tried 5 = .ok (.invokestatic 253, 3) := by decide +kernel
theorem dX11_tried_8 : decode cX11_tried 8 = .ok (.aload_n 0, 1) := by decide +kernel
theorem dX11_tried_9 : decode cX11_tried 9 = .ok (.iload_n 2, 1) := by decide +kernel
theorem dX11_tried_10 : decode cX11_tried 10 = .ok (.invokevirtual 256, 3) := by decide +kernel
theorem dX11_tried_13 : decode cX11_tried 13 = .ok (.aload_n 0, 1) := by decide +kernel
theorem dX11_tried_14 : decode cX11_tried 14 = .ok (.iload_n 1, 1) := by decide +kernel
theorem dX11_tried_15 : decode cX11_tried 15 = .ok (.invokevirtual 142, 3) := by decide +kernel
theorem dX11_tried_18 : decode cX11_tried 18 = .ok (.astore 5, 2) := by decide +kernel
theorem dX11_tried_20 : decode cX11_tried 20 = .ok (.iconst 0, 1) := by decide +kernel
theorem dX11_tried_21 : decode cX11_tried 21 = .ok (.istore 6, 2) := by decide +kernel
theorem dX11_tried_23 : decode cX11_tried 23 = .ok (.iconst 0, 1) := by decide +kernel
theorem dX11_tried_24 : decode cX11_tried 24 = .ok (.istore 7, 2) := by decide +kernel
theorem dX11_tried_26 : decode cX11_tried 26 = .ok (.iload 7, 2) := by decide +kernel
theorem dX11_tried_28 : decode cX11_tried 28 = .ok (.aload 5, 2) := by decide +kernel
theorem dX11_tried_30 : decode cX11_tried 30 = .ok (.getfield 124, 3) := by decide +kernel
theorem dX11_tried_33 : decode cX11_tried 33 = .ok (.if_icmp .ge 48, 3) := by decide +kernel
theorem dX11_tried_36 : decode cX11_tried 36 = .ok (.iload_n 3, 1) := by decide +kernel
theorem dX11_tried_37 : decode cX11_tried 37 = .ok (.iconst (-1), 1) := by decide +kernel
theorem dX11_tried_38 : decode cX11_tried 38 = .ok (.if_icmp .eq 14, 3) := by decide +kernel
theorem dX11_tried_41 : decode cX11_tried 41 = .ok (.aload 5, 2) := by decide +kernel
theorem dX11_tried_43 : decode cX11_tried 43 = .ok (.iload 7, 2) := by decide +kernel
theorem dX11_tried_45 : decode cX11_tried 45 = .ok (.invokevirtual 163, 3) := by decide +kernel
theorem dX11_tried_48 : decode cX11_tried 48 = .ok (.iload_n 3, 1) := by decide +kernel
theorem dX11_tried_49 : decode cX11_tried 49 = .ok (.if_icmp .ne 26, 3) := by decide +kernel
theorem dX11_tried_52 : decode cX11_tried 52 = .ok (.iload 4, 2) := by decide +kernel
theorem dX11_tried_54 : decode cX11_tried 54 = .ok (.iconst (-1), 1) := by decide +kernel
theorem dX11_tried_55 : decode cX11_tried 55 = .ok (.if_icmp .eq 17, 3) := by decide +kernel
theorem dX11_tried_58 : decode cX11_tried 58 = .ok (.aload_n 0, 1) := by decide +kernel
theorem dX11_tried_59 : decode cX11_tried 59 = .ok (.iload_n 2, 1) := by decide +kernel
theorem dX11_tried_60 : decode cX11_tried 60 = .ok (.aload 5, 2) := by decide +kernel
theorem dX11_tried_62 : decode cX11_tried 62 = .ok (.iload 7, 2) := by decide +kernel
theorem dX11_tried_64 : decode cX11_tried 64 = .ok (.invokevirtual 262, 3) := by decide +kernel
theorem dX11_tried_67 : decode cX11_tried 67 = .ok (.iload 4, 2) := by decide +kernel
theorem dX11_tried_69 : decode cX11_tried 69 = .ok (.if_icmp .ne 6, 3) := by decide +kernel
theorem dX11_tried_72 : decode cX11_tried 72 = .ok (.iinc 6 1, 3) := by decide +kernel
theorem dX11_tried_75 : decode cX11_tried 75 = .ok (.iinc 7 1, 3) := by decide +kernel
theorem dX11_tried_78 : decode cX11_tried 78 = .ok (.goto (-52), 3) := by decide +kernel
theorem dX11_tried_81 : decode cX11_tried 81 = .ok (.iload 6, 2) := by decide +kernel
theorem dX11_tried_83 : decode cX11_tried 83 = .ok (.ireturn, 1) := by decide +kernel
set_option maxRecDepth 20000 in
theorem ggX11_errors_X11_needSet : GoodIn wsX11_errors wsX11_needSet := goodIn_ca (goodIn_r _ [5, 6, 7] (by decide +kernel) (by decide +kernel)) (goodIn_sub (fun _ h => List.mem_cons_of_mem _ (List.mem_append_left _ (List.mem_append_right _ h))) (by decide +kernel))
set_option maxRecDepth 20000 in
theorem gX11_errors_X11_needSet : GoodIn wsX11_errors (va_wsS RX11 136 yX11_needSet wsX11_needSet) := goodIn_app (goodIn_of _ (by decide +kernel)) ggX11_errors_X11_needSet
set_option maxRecDepth 20000 in
theorem ggX11_errors_X11_needWay : GoodIn wsX11_errors wsX11_needWay := goodIn_ca (goodIn_r _ [10, 6, 7] (by decide +kernel) (by decide +kernel)) (goodIn_sub (fun _ h => List.mem_cons_of_mem _ (List.mem_append_left _ (List.mem_append_right _ h))) (by decide +kernel))
set_option maxRecDepth 20000 in
theorem gX11_errors_X11_needWay : GoodIn wsX11_errors (va_wsS RX11 253 yX11_needWay wsX11_needWay) := goodIn_app (goodIn_of _ (by decide +kernel)) ggX11_errors_X11_needWay
set_option maxRecDepth 20000 in
theorem ggX11_errors_X11_needDecider : GoodIn wsX11_errors wsX11_needDecider := goodIn_ca (goodIn_r _ [14, 15, 16, 17, 18, 19, 20, 21, 4, 22, 23, 24, 104, 105, 106, 107, 108, 109, 110, 111, 112, 113, 114, 115, 116, 117, 118, 119, 120, 121, 122, 123, 124, 125, 126, 127, 128, 129, 130, 131, 132, 133, 134, 135, 136, 137, 138, 139, 140, 141, 142, 143, 144, 145, 146, 147, 148, 149, 150, 151] (by decide +kernel) (by decide +kernel)) (goodIn_sub (fun _ h => List.mem_cons_of_mem _ (List.mem_append_right _ h)) (by decide +kernel))
set_option maxRecDepth 20000 in
theorem gX11_errors_X11_needDecider : GoodIn wsX11_errors (wsV RX11 256 RX11 yX11_needDecider wsX11_needDecider) := goodIn_app (goodIn_of _ (by decide +kernel)) ggX11_errors_X11_needDecider
set_option maxRecDepth 20000 in
theorem ggX11_errors_X11_tableOf : GoodIn wsX11_errors wsX11_tableOf := goodIn_r _ [28, 29, 30, 104, 105, 106, 107, 108, 109, 110, 111, 112, 113, 114, 115, 116, 117, 118, 119] (by decide +kernel) (by decide +kernel)
set_option maxRecDepth 20000 in
theorem gX11_errors_X11_tableOf : GoodIn wsX11_errors (wsV RX11 142 RX11 yX11_tableOf wsX11_tableOf) := goodIn_app (goodIn_of _ (by decide +kernel)) ggX11_errors_X11_tableOf
theorem dX11_errors_0 : decode cX11_errors 0 = .ok (.iload_n 1, 1) := by decide +kernel
theorem dX11_errors_1 : decode cX11_errors 1 = .ok (.invokestatic 136, 3) := by decide +kernel
theorem dX11_errors_4 : decode cX11_errors 4 = .ok (.iload_n 2, 1) := by decide +kernel
theorem dX11_errors_5 : decode cX11_errors 5 = .ok (.invokestatic 253, 3) := by decide +kernel
theorem dX11_errors_8 : decode cX11_errors 8 = .ok (.aload_n 0, 1) := by decide +kernel
theorem dX11_errors_9 : decode cX11_errors 9 = .ok (.iload_n 2, 1) := by decide +kernel
theorem dX11_errors_10 : decode cX11_errors 10 = .ok (.invokevirtual 256, 3) := by decide +kernel
theorem dX11_errors_13 : decode cX11_errors 13 = .ok (.aload_n 0, 1) := by decide +kernel
theorem dX11_errors_14 : decode cX11_errors 14 = .ok (.iload_n 1, 1) := by decide +kernel
theorem dX11_errors_15 : decode cX11_errors 15 = .ok (.invokevirtual 142, 3) := by decide +kernel
theorem dX11_errors_18 : decode cX11_errors 18 = .ok (.astore_n 3, 1) := by decide +kernel
theorem dX11_errors_19 : decode cX11_errors 19 = .ok (.iconst 0, 1) := by decide +kernel
theorem dX11_errors_20 : decode cX11_errors 20 = .ok (.istore 4, 2) := by decide +kernel
theorem dX11_errors_22 : decode cX11_errors 22 = .ok (.iconst 0, 1) := by decide +kernel
theorem dX11_errors_23 : decode cX11_errors 23 = .ok (.istore 5, 2) := by decide +kernel
theorem dX11_errors_25 : decode cX11_errors 25 = .ok (.iload 5, 2) := by decide +kernel
theorem dX11_errors_27 : decode cX11_errors 27 = .ok (.aload_n 3, 1) := by decide +kernel
theorem dX11_errors_28 : decode cX11_errors 28 = .ok (.getfield 124, 3) := by decide +kernel
theorem dX11_errors_31 : decode cX11_errors 31 = .ok (.if_icmp .ge 29, 3) := by decide +kernel
theorem dX11_errors_34 : decode cX11_errors 34 = .ok (.aload_n 0, 1) := by decide +kernel
theorem dX11_errors_35 : decode cX11_errors 35 = .ok (.iload_n 2, 1) := by decide +kernel
theorem dX11_errors_36 : decode cX11_errors 36 = .ok (.aload_n 3, 1) := by decide +kernel
theorem dX11_errors_37 : decode cX11_errors 37 = .ok (.iload 5, 2) := by decide +kernel
theorem dX11_errors_39 : decode cX11_errors 39 = .ok (.invokevirtual 262, 3) := by decide +kernel
theorem dX11_errors_42 : decode cX11_errors 42 = .ok (.aload_n 3, 1) := by decide +kernel
theorem dX11_errors_43 : decode cX11_errors 43 = .ok (.iload 5, 2) := by decide +kernel
theorem dX11_errors_45 : decode cX11_errors 45 = .ok (.invokevirtual 163, 3) := by decide +kernel
theorem dX11_errors_48 : decode cX11_errors 48 = .ok (.if_icmp .eq 6, 3) := by decide +kernel
theorem dX11_errors_51 : decode cX11_errors 51 = .ok (.iinc 4 1, 3) := by decide +kernel
theorem dX11_errors_54 : decode cX11_errors 54 = .ok (.iinc 5 1, 3) := by decide +kernel
theorem dX11_errors_57 : decode cX11_errors 57 = .ok (.goto (-32), 3) := by decide +kernel
theorem dX11_errors_60 : decode cX11_errors 60 = .ok (.iload 4, 2) := by decide +kernel
theorem dX11_errors_62 : decode cX11_errors 62 = .ok (.ireturn, 1) := by decide +kernel
set_option maxRecDepth 20000 in
theorem ggX11_folds_X11_needManner : GoodIn wsX11_folds wsX11_needManner := goodIn_ca (goodIn_r _ [11, 1, 2] (by decide +kernel) (by decide +kernel)) (goodIn_sub (fun _ h => List.mem_cons_of_mem _ (List.mem_append_left _ (List.mem_append_right _ h))) (by decide +kernel))
set_option maxRecDepth 20000 in
theorem gX11_folds_X11_needManner : GoodIn wsX11_folds (va_wsS RX11 170 yX11_needManner wsX11_needManner) := goodIn_app (goodIn_of _ (by decide +kernel)) ggX11_folds_X11_needManner
set_option maxRecDepth 20000 in
theorem ggX11_folds_X11_needRows : GoodIn wsX11_folds wsX11_needRows := goodIn_ca (goodIn_r _ [15, 16, 17, 6, 7, 328, 329, 330, 331, 332, 333, 334, 335, 336, 337, 338, 339, 340, 341, 342, 343, 344, 345, 346] (by decide +kernel) (by decide +kernel)) (goodIn_sub (fun _ h => List.mem_cons_of_mem _ (List.mem_append_right _ h)) (by decide +kernel))
set_option maxRecDepth 20000 in
theorem gX11_folds_X11_needRows : GoodIn wsX11_folds (wsV RX11 174 RX11 yX11_needRows wsX11_needRows) := goodIn_app (goodIn_of _ (by decide +kernel)) ggX11_folds_X11_needRows
theorem dX11_folds_0 : decode cX11_folds 0 = .ok (.iload_n 1, 1) := by decide +kernel
theorem dX11_folds_1 : decode cX11_folds 1 = .ok (.iconst 2, 1) := by decide +kernel
theorem dX11_folds_2 : decode cX11_folds 2 = .ok (.if_icmp .lt 9, 3) := by decide +kernel
theorem dX11_folds_5 : decode cX11_folds 5 = .ok (.iload_n 1, 1) := by decide +kernel
theorem dX11_folds_6 : decode cX11_folds 6 = .ok (.bipush 10, 2) := by decide +kernel
theorem dX11_folds_8 : decode cX11_folds 8 = .ok (.if_icmp .le 14, 3) := by decide +kernel
theorem dX11_folds_11 : decode cX11_folds 11 = .ok (.new 266, 3) := by decide +kernel
theorem dX11_folds_14 : decode cX11_folds 14 = .ok (.dup, 1) := by decide +kernel
theorem dX11_folds_15 : decode cX11_folds 15 = .ok (.ldc_w 268, 3) := by decide +kernel
theorem dX11_folds_18 : decode cX11_folds 18 = .ok (.invokespecial 270, 3) := by decide +kernel
theorem dX11_folds_21 : decode cX11_folds 21 = .ok (.athrow, 1) := by decide +kernel
theorem dX11_folds_22 : decode cX11_folds 22 = .ok (.iload_n 2, 1) := by decide +kernel
theorem dX11_folds_23 : decode cX11_folds 23 = .ok (.iload_n 3, 1) := by decide +kernel
theorem dX11_folds_24 : decode cX11_folds 24 = .ok (.iload 4, 2) := by decide +kernel
theorem dX11_folds_26 : decode cX11_folds 26 = .ok (.invokestatic 170, 3) := by decide +kernel
theorem dX11_folds_29 : decode cX11_folds 29 = .ok (.aload_n 0, 1) := by decide +kernel
theorem dX11_folds_30 : decode cX11_folds 30 = .ok (.iload_n 1, 1) := by decide +kernel
theorem dX11_folds_31 : decode cX11_folds 31 = .ok (.invokevirtual 174, 3) := by decide +kernel
theorem dX11_folds_34 : decode cX11_folds 34 = .ok (.aload_n 0, 1) := by decide +kernel
theorem dX11_folds_35 : decode cX11_folds 35 = .ok (.getfield 99, 3) := by decide +kernel
theorem dX11_folds_38 : decode cX11_folds 38 = .ok (.iload_n 2, 1) := by decide +kernel
theorem dX11_folds_39 : decode cX11_folds 39 = .ok (.iload_n 3, 1) := by decide +kernel
theorem dX11_folds_40 : decode cX11_folds 40 = .ok (.iload 4, 2) := by decide +kernel
theorem dX11_folds_42 : decode cX11_folds 42 = .ok (.invokevirtual 177, 3) := by decide +kernel
theorem dX11_folds_45 : decode cX11_folds 45 = .ok (.iconst 0, 1) := by decide +kernel
theorem dX11_folds_46 : decode cX11_folds 46 = .ok (.istore 5, 2) := by decide +kernel
theorem dX11_folds_48 : decode cX11_folds 48 = .ok (.iconst 0, 1) := by decide +kernel
theorem dX11_folds_49 : decode cX11_folds 49 = .ok (.istore 6, 2) := by decide +kernel
theorem dX11_folds_51 : decode cX11_folds 51 = .ok (.iload 6, 2) := by decide +kernel
theorem dX11_folds_53 : decode cX11_folds 53 = .ok (.iload_n 1, 1) := by decide +kernel
theorem dX11_folds_54 : decode cX11_folds 54 = .ok (.if_icmp .ge 87, 3) := by decide +kernel
theorem dX11_folds_57 : decode cX11_folds 57 = .ok (.aload_n 0, 1) := by decide +kernel
theorem dX11_folds_58 : decode cX11_folds 58 = .ok (.getfield 99, 3) := by decide +kernel
theorem dX11_folds_61 : decode cX11_folds 61 = .ok (.iload_n 1, 1) := by decide +kernel
theorem dX11_folds_62 : decode cX11_folds 62 = .ok (.iload 6, 2) := by decide +kernel
theorem dX11_folds_64 : decode cX11_folds 64 = .ok (.invokevirtual 180, 3) := by decide +kernel
theorem dX11_folds_67 : decode cX11_folds 67 = .ok (.aload_n 0, 1) := by decide +kernel
theorem dX11_folds_68 : decode cX11_folds 68 = .ok (.getfield 99, 3) := by decide +kernel
theorem dX11_folds_71 : decode cX11_folds 71 = .ok (.aload_n 0, 1) := by decide +kernel
theorem dX11_folds_72 : decode cX11_folds 72 = .ok (.getfield 77, 3) := by decide +kernel
theorem dX11_folds_75 : decode cX11_folds 75 = .ok (.aload_n 0, 1) := by decide +kernel
theorem dX11_folds_76 : decode cX11_folds 76 = .ok (.getfield 91, 3) := by decide +kernel
theorem dX11_folds_79 : decode cX11_folds 79 = .ok (.invokevirtual 184, 3) := by decide +kernel
theorem dX11_folds_82 : decode cX11_folds 82 = .ok (.iload 6, 2) := by decide +kernel
theorem dX11_folds_84 : decode cX11_folds 84 = .ok (.istore 7, 2) := by decide +kernel
theorem dX11_folds_86 : decode cX11_folds 86 = .ok (.iload 7, 2) := by decide +kernel
theorem dX11_folds_88 : decode cX11_folds 88 = .ok (.aload_n 0, 1) := by decide +kernel
theorem dX11_folds_89 : decode cX11_folds 89 = .ok (.getfield 40, 3) := by decide +kernel
theorem dX11_folds_92 : decode cX11_folds 92 = .ok (.getfield 124, 3) := by decide +kernel
theorem dX11_folds_95 : decode cX11_folds 95 = .ok (.if_icmp .ge 40, 3) := by decide +kernel
theorem dX11_folds_98 : decode cX11_folds 98 = .ok (.aload_n 0, 1) := by decide +kernel
theorem dX11_folds_99 : decode cX11_folds 99 = .ok (.getfield 91, 3) := by decide +kernel
theorem dX11_folds_102 : decode cX11_folds 102 = .ok (.aload_n 0, 1) := by decide +kernel
theorem dX11_folds_103 : decode cX11_folds 103 = .ok (.getfield 40, 3) := by decide +kernel
theorem dX11_folds_106 : decode cX11_folds 106 = .ok (.iload 7, 2) := by decide +kernel
theorem dX11_folds_108 : decode cX11_folds 108 = .ok (.invokevirtual 271, 3) := by decide +kernel
theorem dX11_folds_111 : decode cX11_folds 111 = .ok (.aload_n 0, 1) := by decide +kernel
theorem dX11_folds_112 : decode cX11_folds 112 = .ok (.getfield 40, 3) := by decide +kernel
theorem dX11_folds_115 : decode cX11_folds 115 = .ok (.iload 7, 2) := by decide +kernel
theorem dX11_folds_117 : decode cX11_folds 117 = .ok (.invokevirtual 163, 3) := by decide +kernel
theorem dX11_folds_120 : decode cX11_folds 120 = .ok (.if_icmp .eq 6, 3) := by decide +kernel
theorem dX11_folds_123 : decode cX11_folds 123 = .ok (.iinc 5 1, 3) := by decide +kernel
theorem dX11_folds_126 : decode cX11_folds 126 = .ok (.iload 7, 2) := by decide +kernel
theorem dX11_folds_128 : decode cX11_folds 128 = .ok (.iload_n 1, 1) := by decide +kernel
theorem dX11_folds_129 : decode cX11_folds 129 = .ok (.iadd, 1) := by decide +kernel
theorem dX11_folds_130 : decode cX11_folds 130 = .ok (.istore 7, 2) := by decide +kernel
theorem dX11_folds_132 : decode cX11_folds 132 = .ok (.goto (-46), 3) := by decide +kernel
theorem dX11_folds_135 : decode cX11_folds 135 = .ok (.iinc 6 1, 3) := by decide +kernel
theorem dX11_folds_138 : decode cX11_folds 138 = .ok (.goto (-87), 3) := by decide +kernel
theorem dX11_folds_141 : decode cX11_folds 141 = .ok (.iload 5, 2) := by decide +kernel
theorem dX11_folds_143 : decode cX11_folds 143 = .ok (.ireturn, 1) := by decide +kernel
set_option maxRecDepth 20000 in
theorem ggX11_rules_X11_needTree : GoodIn wsX11_rules wsX11_needTree := goodIn_ca (goodIn_r _ [9, 10, 11, 2, 12, 160, 161, 162, 163, 164, 165, 166, 167, 168, 169, 170, 171, 172, 173, 174, 175, 194, 195, 196, 197, 198, 199, 200, 201, 202, 203, 204, 205, 206, 207] (by decide +kernel) (by decide +kernel)) (goodIn_sub (fun _ h => List.mem_cons_of_mem _ (List.mem_append_right _ h)) (by decide +kernel))
set_option maxRecDepth 20000 in
theorem gX11_rules_X11_needTree : GoodIn wsX11_rules (wsV RX11 202 RX11 yX11_needTree wsX11_needTree) := goodIn_app (goodIn_of _ (by decide +kernel)) ggX11_rules_X11_needTree
theorem dX11_rules_0 : decode cX11_rules 0 = .ok (.aload_n 0, 1) := by decide +kernel
theorem dX11_rules_1 : decode cX11_rules 1 = .ok (.invokevirtual 202, 3) := by decide +kernel
theorem dX11_rules_4 : decode cX11_rules 4 = .ok (.aload_n 0, 1) := by decide +kernel
theorem dX11_rules_5 : decode cX11_rules 5 = .ok (.getfield 70, 3) := by decide +kernel
theorem dX11_rules_8 : decode cX11_rules 8 = .ok (.aload_n 0, 1) := by decide +kernel
theorem dX11_rules_9 : decode cX11_rules 9 = .ok (.getfield 87, 3) := by decide +kernel
theorem dX11_rules_12 : decode cX11_rules 12 = .ok (.aload_n 0, 1) := by decide +kernel
theorem dX11_rules_13 : decode cX11_rules 13 = .ok (.getfield 40, 3) := by decide +kernel
theorem dX11_rules_16 : decode cX11_rules 16 = .ok (.invokevirtual 274, 3) := by decide +kernel
theorem dX11_rules_19 : decode cX11_rules 19 = .ok (.aload_n 0, 1) := by decide +kernel
theorem dX11_rules_20 : decode cX11_rules 20 = .ok (.getfield 70, 3) := by decide +kernel
theorem dX11_rules_23 : decode cX11_rules 23 = .ok (.getfield 278, 3) := by decide +kernel
theorem dX11_rules_26 : decode cX11_rules 26 = .ok (.ireturn, 1) := by decide +kernel
theorem dX11_rule_0 : decode cX11_rule 0 = .ok (.iload_n 1, 1) := by decide +kernel
theorem dX11_rule_1 : decode cX11_rule 1 = .ok (.ifCond .lt 23, 3) := by decide +kernel
theorem dX11_rule_4 : decode cX11_rule 4 = .ok (.iload_n 1, 1) := by decide +kernel
theorem dX11_rule_5 : decode cX11_rule 5 = .ok (.aload_n 0, 1) := by decide +kernel
theorem dX11_rule_6 : decode cX11_rule 6 = .ok (.getfield 70, 3) := by decide +kernel
theorem dX11_rule_9 : decode cX11_rule 9 = .ok (.getfield 278, 3) := by decide +kernel
theorem dX11_rule_12 : decode cX11_rule 12 = .ok (.if_icmp .ge 12, 3) := by decide +kernel
theorem dX11_rule_15 : decode cX11_rule 15 = .ok (.iload_n 2, 1) := by decide +kernel
theorem dX11_rule_16 : decode cX11_rule 16 = .ok (.ifCond .lt 8, 3) := by decide +kernel
theorem dX11_rule_19 : decode cX11_rule 19 = .ok (.iload_n 2, 1) := by decide +kernel
theorem dX11_rule_20 : decode cX11_rule 20 = .ok (.iconst 3, 1) := by decide +kernel
theorem dX11_rule_21 : decode cX11_rule 21 = .ok (.if_icmp .le 14, 3) := by decide +kernel
theorem dX11_rule_24 : decode cX11_rule 24 = .ok (.new 156, 3) := by decide +kernel
theorem dX11_rule_27 : decode cX11_rule 27 = .ok (.dup, 1) := by decide +kernel
theorem dX11_rule_28 : decode cX11_rule 28 = .ok (.ldc_w 281, 3) := by decide +kernel
theorem dX11_rule_31 : decode cX11_rule 31 = .ok (.invokespecial 160, 3) := by decide +kernel
theorem dX11_rule_34 : decode cX11_rule 34 = .ok (.athrow, 1) := by decide +kernel
theorem dX11_rule_35 : decode cX11_rule 35 = .ok (.aload_n 0, 1) := by decide +kernel
theorem dX11_rule_36 : decode cX11_rule 36 = .ok (.getfield 70, 3) := by decide +kernel
theorem dX11_rule_39 : decode cX11_rule 39 = .ok (.aload_n 0, 1) := by decide +kernel
theorem dX11_rule_40 : decode cX11_rule 40 = .ok (.getfield 70, 3) := by decide +kernel
theorem dX11_rule_43 : decode cX11_rule 43 = .ok (.getfield 283, 3) := by decide +kernel
theorem dX11_rule_46 : decode cX11_rule 46 = .ok (.iload_n 1, 1) := by decide +kernel
theorem dX11_rule_47 : decode cX11_rule 47 = .ok (.iaload, 1) := by decide +kernel
theorem dX11_rule_48 : decode cX11_rule 48 = .ok (.iload_n 2, 1) := by decide +kernel
theorem dX11_rule_49 : decode cX11_rule 49 = .ok (.invokevirtual 286, 3) := by decide +kernel
theorem dX11_rule_52 : decode cX11_rule 52 = .ok (.ireturn, 1) := by decide +kernel
theorem dX11_condition_0 : decode cX11_condition 0 = .ok (.iload_n 1, 1) := by decide +kernel
theorem dX11_condition_1 : decode cX11_condition 1 = .ok (.ifCond .lt 27, 3) := by decide +kernel
theorem dX11_condition_4 : decode cX11_condition 4 = .ok (.iload_n 1, 1) := by decide +kernel
theorem dX11_condition_5 : decode cX11_condition 5 = .ok (.aload_n 0, 1) := by decide +kernel
theorem dX11_condition_6 : decode cX11_condition 6 = .ok (.getfield 70, 3) := by decide +kernel
theorem dX11_condition_9 : decode cX11_condition 9 = .ok (.getfield 278, 3) := by decide +kernel
theorem dX11_condition_12 : decode cX11_condition 12 = .ok (.if_icmp .ge 16, 3) := by decide +kernel
theorem dX11_condition_15 : decode cX11_condition 15 = .ok (.iload_n 2, 1) := by decide +kernel
theorem dX11_condition_16 : decode cX11_condition 16 = .ok (.ifCond .lt 12, 3) := by decide +kernel
theorem dX11_condition_19 : decode cX11_condition 19 = .ok (.iload_n 3, 1) := by decide +kernel
theorem dX11_condition_20 : decode cX11_condition 20 = .ok (.ifCond .lt 8, 3) := by decide +kernel
theorem dX11_condition_23 : decode cX11_condition 23 = .ok (.iload_n 3, 1) := by decide +kernel
theorem dX11_condition_24 : decode cX11_condition 24 = .ok (.iconst 2, 1) := by decide +kernel
theorem dX11_condition_25 : decode cX11_condition 25 = .ok (.if_icmp .le 14, 3) := by decide +kernel
theorem dX11_condition_28 : decode cX11_condition 28 = .ok (.new 156, 3) := by decide +kernel
theorem dX11_condition_31 : decode cX11_condition 31 = .ok (.dup, 1) := by decide +kernel
theorem dX11_condition_32 : decode cX11_condition 32 = .ok (.ldc_w 287, 3) := by decide +kernel
theorem dX11_condition_35 : decode cX11_condition 35 = .ok (.invokespecial 160, 3) := by decide +kernel
theorem dX11_condition_38 : decode cX11_condition 38 = .ok (.athrow, 1) := by decide +kernel
theorem dX11_condition_39 : decode cX11_condition 39 = .ok (.aload_n 0, 1) := by decide +kernel
theorem dX11_condition_40 : decode cX11_condition 40 = .ok (.getfield 70, 3) := by decide +kernel
theorem dX11_condition_43 : decode cX11_condition 43 = .ok (.getfield 283, 3) := by decide +kernel
theorem dX11_condition_46 : decode cX11_condition 46 = .ok (.iload_n 1, 1) := by decide +kernel
theorem dX11_condition_47 : decode cX11_condition 47 = .ok (.iaload, 1) := by decide +kernel
theorem dX11_condition_48 : decode cX11_condition 48 = .ok (.istore 4, 2) := by decide +kernel
theorem dX11_condition_50 : decode cX11_condition 50 = .ok (.iload_n 2, 1) := by decide +kernel
theorem dX11_condition_51 : decode cX11_condition 51 = .ok (.aload_n 0, 1) := by decide +kernel
theorem dX11_condition_52 : decode cX11_condition 52 = .ok (.getfield 70, 3) := by decide +kernel
theorem dX11_condition_55 : decode cX11_condition 55 = .ok (.getfield 289, 3) := by decide +kernel
theorem dX11_condition_58 : decode cX11_condition 58 = .ok (.iload 4, 2) := by decide +kernel
theorem dX11_condition_60 : decode cX11_condition 60 = .ok (.iaload, 1) := by decide +kernel
theorem dX11_condition_61 : decode cX11_condition 61 = .ok (.if_icmp .lt 14, 3) := by decide +kernel
theorem dX11_condition_64 : decode cX11_condition 64 = .ok (.new 156, 3) := by decide +kernel
theorem dX11_condition_67 : decode cX11_condition 67 = .ok (.dup, 1) := by decide +kernel
theorem dX11_condition_68 : decode cX11_condition 68 = .ok (.ldc_w 291, 3) := by decide +kernel
theorem dX11_condition_71 : decode cX11_condition 71 = .ok (.invokespecial 160, 3) := by decide +kernel
theorem dX11_condition_74 : decode cX11_condition 74 = .ok (.athrow, 1) := by decide +kernel
theorem dX11_condition_75 : decode cX11_condition 75 = .ok (.aload_n 0, 1) := by decide +kernel
theorem dX11_condition_76 : decode cX11_condition 76 = .ok (.getfield 70, 3) := by decide +kernel
theorem dX11_condition_79 : decode cX11_condition 79 = .ok (.getfield 293, 3) := by decide +kernel
theorem dX11_condition_82 : decode cX11_condition 82 = .ok (.iload 4, 2) := by decide +kernel
theorem dX11_condition_84 : decode cX11_condition 84 = .ok (.iaload, 1) := by decide +kernel
theorem dX11_condition_85 : decode cX11_condition 85 = .ok (.iload_n 2, 1) := by decide +kernel
theorem dX11_condition_86 : decode cX11_condition 86 = .ok (.iadd, 1) := by decide +kernel
theorem dX11_condition_87 : decode cX11_condition 87 = .ok (.istore 5, 2) := by decide +kernel
theorem dX11_condition_89 : decode cX11_condition 89 = .ok (.iload_n 3, 1) := by decide +kernel
theorem dX11_condition_90 : decode cX11_condition 90 = .ok (.ifCond .ne 14, 3) := by decide +kernel
theorem dX11_condition_93 : decode cX11_condition 93 = .ok (.aload_n 0, 1) := by decide +kernel
theorem dX11_condition_94 : decode cX11_condition 94 = .ok (.getfield 70, 3) := by decide +kernel
theorem dX11_condition_97 : decode cX11_condition 97 = .ok (.getfield 296, 3) := by decide +kernel
theorem dX11_condition_100 : decode cX11_condition 100 = .ok (.iload 5, 2) := by decide +kernel
theorem dX11_condition_102 : decode cX11_condition 102 = .ok (.iaload, 1) := by decide +kernel
theorem dX11_condition_103 : decode cX11_condition 103 = .ok (.ireturn, 1) := by decide +kernel
theorem dX11_condition_104 : decode cX11_condition 104 = .ok (.iload_n 3, 1) := by decide +kernel
theorem dX11_condition_105 : decode cX11_condition 105 = .ok (.iconst 1, 1) := by decide +kernel
theorem dX11_condition_106 : decode cX11_condition 106 = .ok (.if_icmp .ne 16, 3) := by decide +kernel
theorem dX11_condition_109 : decode cX11_condition 109 = .ok (.aload_n 0, 1) := by decide +kernel
theorem dX11_condition_110 : decode cX11_condition 110 = .ok (.getfield 70, 3) := by decide +kernel
theorem dX11_condition_113 : decode cX11_condition 113 = .ok (.getfield 299, 3) := by decide +kernel
theorem dX11_condition_116 : decode cX11_condition 116 = .ok (.iload 5, 2) := by decide +kernel
theorem dX11_condition_118 : decode cX11_condition 118 = .ok (.iaload, 1) := by decide +kernel
theorem dX11_condition_119 : decode cX11_condition 119 = .ok (.goto 13, 3) := by decide +kernel
theorem dX11_condition_122 : decode cX11_condition 122 = .ok (.aload_n 0, 1) := by decide +kernel
theorem dX11_condition_123 : decode cX11_condition 123 = .ok (.getfield 70, 3) := by decide +kernel
theorem dX11_condition_126 : decode cX11_condition 126 = .ok (.getfield 302, 3) := by decide +kernel
theorem dX11_condition_129 : decode cX11_condition 129 = .ok (.iload 5, 2) := by decide +kernel
theorem dX11_condition_131 : decode cX11_condition 131 = .ok (.iaload, 1) := by decide +kernel
theorem dX11_condition_132 : decode cX11_condition 132 = .ok (.ireturn, 1) := by decide +kernel
set_option maxRecDepth 20000 in
theorem ggX11_write_X11_needDecider : GoodIn wsX11_write wsX11_needDecider := goodIn_ca (goodIn_r _ [13, 14, 15, 6, 16, 17, 18, 19, 12, 20, 5, 21, 173, 174, 175, 176, 177, 178, 179, 180, 181, 182, 183, 184, 185, 186, 187, 188, 192, 193, 194, 195, 196, 197, 198, 199, 200, 201, 202, 203, 204, 205, 206, 207, 208, 209, 210, 211, 212, 213, 214, 215, 216, 217, 218, 219, 220, 221, 222, 223] (by decide +kernel) (by decide +kernel)) (goodIn_sub (fun _ h => List.mem_cons_of_mem _ (List.mem_append_right _ h)) (by decide +kernel))
set_option maxRecDepth 20000 in
theorem gX11_write_X11_needDecider : GoodIn wsX11_write (wsV RX11 256 RX11 yX11_needDecider wsX11_needDecider) := goodIn_app (goodIn_of _ (by decide +kernel)) ggX11_write_X11_needDecider
theorem dX11_write_0 : decode cX11_write 0 = .ok (.iload_n 1, 1) := by decide +kernel
theorem dX11_write_1 : decode cX11_write 1 = .ok (.ifCond .eq 19, 3) := by decide +kernel
theorem dX11_write_4 : decode cX11_write 4 = .ok (.iload_n 1, 1) := by decide +kernel
theorem dX11_write_5 : decode cX11_write 5 = .ok (.iconst 1, 1) := by decide +kernel
theorem dX11_write_6 : decode cX11_write 6 = .ok (.if_icmp .eq 14, 3) := by decide +kernel
theorem dX11_write_9 : decode cX11_write 9 = .ok (.new 266, 3) := by decide +kernel
theorem dX11_write_12 : decode cX11_write 12 = .ok (.dup, 1) := by decide +kernel
theorem dX11_write_13 : decode cX11_write 13 = .ok (.ldc_w 305, 3) := by decide +kernel
theorem dX11_write_16 : decode cX11_write 16 = .ok (.invokespecial 270, 3) := by decide +kernel
theorem dX11_write_19 : decode cX11_write 19 = .ok (.athrow, 1) := by decide +kernel
theorem dX11_write_20 : decode cX11_write 20 = .ok (.aload_n 0, 1) := by decide +kernel
theorem dX11_write_21 : decode cX11_write 21 = .ok (.iload_n 1, 1) := by decide +kernel
theorem dX11_write_22 : decode cX11_write 22 = .ok (.invokevirtual 256, 3) := by decide +kernel
theorem dX11_write_25 : decode cX11_write 25 = .ok (.iload_n 1, 1) := by decide +kernel
theorem dX11_write_26 : decode cX11_write 26 = .ok (.ifCond .ne 21, 3) := by decide +kernel
theorem dX11_write_29 : decode cX11_write 29 = .ok (.aload_n 0, 1) := by decide +kernel
theorem dX11_write_30 : decode cX11_write 30 = .ok (.getfield 33, 3) := by decide +kernel
theorem dX11_write_33 : decode cX11_write 33 = .ok (.aload_n 0, 1) := by decide +kernel
theorem dX11_write_34 : decode cX11_write 34 = .ok (.getfield 77, 3) := by decide +kernel
theorem dX11_write_37 : decode cX11_write 37 = .ok (.aload_n 0, 1) := by decide +kernel
theorem dX11_write_38 : decode cX11_write 38 = .ok (.getfield 87, 3) := by decide +kernel
theorem dX11_write_41 : decode cX11_write 41 = .ok (.invokevirtual 307, 3) := by decide +kernel
theorem dX11_write_44 : decode cX11_write 44 = .ok (.goto 18, 3) := by decide +kernel
theorem dX11_write_47 : decode cX11_write 47 = .ok (.aload_n 0, 1) := by decide +kernel
theorem dX11_write_48 : decode cX11_write 48 = .ok (.getfield 33, 3) := by decide +kernel
theorem dX11_write_51 : decode cX11_write 51 = .ok (.aload_n 0, 1) := by decide +kernel
theorem dX11_write_52 : decode cX11_write 52 = .ok (.getfield 77, 3) := by decide +kernel
theorem dX11_write_55 : decode cX11_write 55 = .ok (.aload_n 0, 1) := by decide +kernel
theorem dX11_write_56 : decode cX11_write 56 = .ok (.getfield 70, 3) := by decide +kernel
theorem dX11_write_59 : decode cX11_write 59 = .ok (.invokevirtual 310, 3) := by decide +kernel
theorem dX11_write_62 : decode cX11_write 62 = .ok (.aload_n 0, 1) := by decide +kernel
theorem dX11_write_63 : decode cX11_write 63 = .ok (.getfield 18, 3) := by decide +kernel
theorem dX11_write_66 : decode cX11_write 66 = .ok (.getfield 314, 3) := by decide +kernel
theorem dX11_write_69 : decode cX11_write 69 = .ok (.ireturn, 1) := by decide +kernel
set_option maxRecDepth 20000 in
theorem ggX11_letter_X0_at : GoodIn wsX11_letter wsX0_at := goodIn_r _ [6, 7, 8, 25, 26, 27] (by decide +kernel) (by decide +kernel)
set_option maxRecDepth 20000 in
theorem gX11_letter_X0_at : GoodIn wsX11_letter (wsV RX11 116 RX0 yX0_at wsX0_at) := goodIn_app (goodIn_of _ (by decide +kernel)) ggX11_letter_X0_at
theorem dX11_letter_0 : decode cX11_letter 0 = .ok (.aload_n 0, 1) := by decide +kernel
theorem dX11_letter_1 : decode cX11_letter 1 = .ok (.getfield 18, 3) := by decide +kernel
theorem dX11_letter_4 : decode cX11_letter 4 = .ok (.iload_n 1, 1) := by decide +kernel
theorem dX11_letter_5 : decode cX11_letter 5 = .ok (.invokevirtual 116, 3) := by decide +kernel
theorem dX11_letter_8 : decode cX11_letter 8 = .ok (.ireturn, 1) := by decide +kernel
set_option maxRecDepth 20000 in
theorem ggX11_count_X9_leaves : GoodIn wsX11_count wsX9_leaves := goodIn_r _ [20, 21, 22, 54, 55, 56, 57, 58, 59, 60, 61, 62, 63, 64, 65, 66, 67] (by decide +kernel) (by decide +kernel)
set_option maxRecDepth 20000 in
theorem gX11_count_X9_leaves : GoodIn wsX11_count (wsV RX11 324 RX9 yX9_leaves wsX9_leaves) := goodIn_app (goodIn_of _ (by decide +kernel)) ggX11_count_X9_leaves
set_option maxRecDepth 20000 in
theorem ggX11_count_X2_valuesOf : GoodIn wsX11_count wsX2_valuesOf := goodIn_r _ [27, 28, 29, 46, 47, 48, 49, 50] (by decide +kernel) (by decide +kernel)
set_option maxRecDepth 20000 in
theorem gX11_count_X2_valuesOf : GoodIn wsX11_count (wsV RX11 328 RX2 yX2_valuesOf wsX2_valuesOf) := goodIn_app (goodIn_of _ (by decide +kernel)) ggX11_count_X2_valuesOf
theorem dX11_count_0 : decode cX11_count 0 = .ok (.iload_n 1, 1) := by decide +kernel
theorem dX11_count_1 : decode cX11_count 1 = .ok (.tableswitch 149 0 9 #[55, 63, 71, 79, 87, 95, 103, 125, 133, 141], 55) := by decide +kernel
theorem dX11_count_56 : decode cX11_count 56 = .ok (.aload_n 0, 1) := by decide +kernel
theorem dX11_count_57 : decode cX11_count 57 = .ok (.getfield 77, 3) := by decide +kernel
theorem dX11_count_60 : decode cX11_count 60 = .ok (.getfield 219, 3) := by decide +kernel
theorem dX11_count_63 : decode cX11_count 63 = .ok (.ireturn, 1) := by decide +kernel
theorem dX11_count_64 : decode cX11_count 64 = .ok (.aload_n 0, 1) := by decide +kernel
theorem dX11_count_65 : decode cX11_count 65 = .ok (.getfield 77, 3) := by decide +kernel
theorem dX11_count_68 : decode cX11_count 68 = .ok (.getfield 133, 3) := by decide +kernel
theorem dX11_count_71 : decode cX11_count 71 = .ok (.ireturn, 1) := by decide +kernel
theorem dX11_count_72 : decode cX11_count 72 = .ok (.aload_n 0, 1) := by decide +kernel
theorem dX11_count_73 : decode cX11_count 73 = .ok (.getfield 40, 3) := by decide +kernel
theorem dX11_count_76 : decode cX11_count 76 = .ok (.getfield 124, 3) := by decide +kernel
theorem dX11_count_79 : decode cX11_count 79 = .ok (.ireturn, 1) := by decide +kernel
theorem dX11_count_80 : decode cX11_count 80 = .ok (.aload_n 0, 1) := by decide +kernel
theorem dX11_count_81 : decode cX11_count 81 = .ok (.getfield 44, 3) := by decide +kernel
theorem dX11_count_84 : decode cX11_count 84 = .ok (.getfield 124, 3) := by decide +kernel
theorem dX11_count_87 : decode cX11_count 87 = .ok (.ireturn, 1) := by decide +kernel
theorem dX11_count_88 : decode cX11_count 88 = .ok (.aload_n 0, 1) := by decide +kernel
theorem dX11_count_89 : decode cX11_count 89 = .ok (.getfield 87, 3) := by decide +kernel
theorem dX11_count_92 : decode cX11_count 92 = .ok (.getfield 188, 3) := by decide +kernel
theorem dX11_count_95 : decode cX11_count 95 = .ok (.ireturn, 1) := by decide +kernel
theorem dX11_count_96 : decode cX11_count 96 = .ok (.aload_n 0, 1) := by decide +kernel
theorem dX11_count_97 : decode cX11_count 97 = .ok (.getfield 70, 3) := by decide +kernel
theorem dX11_count_100 : decode cX11_count 100 = .ok (.getfield 278, 3) := by decide +kernel
theorem dX11_count_103 : decode cX11_count 103 = .ok (.ireturn, 1) := by decide +kernel
theorem dX11_count_104 : decode cX11_count 104 = .ok (.aload_n 0, 1) := by decide +kernel
theorem dX11_count_105 : decode cX11_count 105 = .ok (.getfield 70, 3) := by decide +kernel
theorem dX11_count_108 : decode cX11_count 108 = .ok (.getfield 317, 3) := by decide +kernel
theorem dX11_count_111 : decode cX11_count 111 = .ok (.ifCond .eq 13, 3) := by decide +kernel
theorem dX11_count_114 : decode cX11_count 114 = .ok (.aload_n 0, 1) := by decide +kernel
theorem dX11_count_115 : decode cX11_count 115 = .ok (.getfield 70, 3) := by decide +kernel
theorem dX11_count_118 : decode cX11_count 118 = .ok (.getfield 321, 3) := by decide +kernel
theorem dX11_count_121 : decode cX11_count 121 = .ok (.goto 4, 3) := by decide +kernel
theorem dX11_count_124 : decode cX11_count 124 = .ok (.iconst (-1), 1) := by decide +kernel
theorem dX11_count_125 : decode cX11_count 125 = .ok (.ireturn, 1) := by decide +kernel
theorem dX11_count_126 : decode cX11_count 126 = .ok (.aload_n 0, 1) := by decide +kernel
theorem dX11_count_127 : decode cX11_count 127 = .ok (.getfield 14, 3) := by decide +kernel
theorem dX11_count_130 : decode cX11_count 130 = .ok (.getfield 103, 3) := by decide +kernel
theorem dX11_count_133 : decode cX11_count 133 = .ok (.ireturn, 1) := by decide +kernel
theorem dX11_count_134 : decode cX11_count 134 = .ok (.aload_n 0, 1) := by decide +kernel
theorem dX11_count_135 : decode cX11_count 135 = .ok (.getfield 18, 3) := by decide +kernel
theorem dX11_count_138 : decode cX11_count 138 = .ok (.getfield 103, 3) := by decide +kernel
theorem dX11_count_141 : decode cX11_count 141 = .ok (.ireturn, 1) := by decide +kernel
theorem dX11_count_142 : decode cX11_count 142 = .ok (.aload_n 0, 1) := by decide +kernel
theorem dX11_count_143 : decode cX11_count 143 = .ok (.getfield 87, 3) := by decide +kernel
theorem dX11_count_146 : decode cX11_count 146 = .ok (.invokevirtual 324, 3) := by decide +kernel
theorem dX11_count_149 : decode cX11_count 149 = .ok (.ireturn, 1) := by decide +kernel
theorem dX11_count_150 : decode cX11_count 150 = .ok (.aload_n 0, 1) := by decide +kernel
theorem dX11_count_151 : decode cX11_count 151 = .ok (.getfield 77, 3) := by decide +kernel
theorem dX11_count_154 : decode cX11_count 154 = .ok (.iload_n 1, 1) := by decide +kernel
theorem dX11_count_155 : decode cX11_count 155 = .ok (.bipush 10, 2) := by decide +kernel
theorem dX11_count_157 : decode cX11_count 157 = .ok (.isub, 1) := by decide +kernel
theorem dX11_count_158 : decode cX11_count 158 = .ok (.invokevirtual 328, 3) := by decide +kernel
theorem dX11_count_161 : decode cX11_count 161 = .ok (.ireturn, 1) := by decide +kernel
theorem dX11_needSet_0 : decode cX11_needSet 0 = .ok (.iload_n 0, 1) := by decide +kernel
theorem dX11_needSet_1 : decode cX11_needSet 1 = .ok (.ifCond .eq 19, 3) := by decide +kernel
theorem dX11_needSet_4 : decode cX11_needSet 4 = .ok (.iload_n 0, 1) := by decide +kernel
theorem dX11_needSet_5 : decode cX11_needSet 5 = .ok (.iconst 1, 1) := by decide +kernel
theorem dX11_needSet_6 : decode cX11_needSet 6 = .ok (.if_icmp .eq 14, 3) := by decide +kernel
theorem dX11_needSet_9 : decode cX11_needSet 9 = .ok (.new 266, 3) := by decide +kernel
theorem dX11_needSet_12 : decode cX11_needSet 12 = .ok (.dup, 1) := by decide +kernel
theorem dX11_needSet_13 : decode cX11_needSet 13 = .ok (.ldc_w 331, 3) := by decide +kernel
theorem dX11_needSet_16 : decode cX11_needSet 16 = .ok (.invokespecial 270, 3) := by decide +kernel
theorem dX11_needSet_19 : decode cX11_needSet 19 = .ok (.athrow, 1) := by decide +kernel
theorem dX11_needSet_20 : decode cX11_needSet 20 = .ok (.return_, 1) := by decide +kernel
theorem dX11_needWay_0 : decode cX11_needWay 0 = .ok (.iload_n 0, 1) := by decide +kernel
theorem dX11_needWay_1 : decode cX11_needWay 1 = .ok (.ifCond .eq 19, 3) := by decide +kernel
theorem dX11_needWay_4 : decode cX11_needWay 4 = .ok (.iload_n 0, 1) := by decide +kernel
theorem dX11_needWay_5 : decode cX11_needWay 5 = .ok (.iconst 1, 1) := by decide +kernel
theorem dX11_needWay_6 : decode cX11_needWay 6 = .ok (.if_icmp .eq 14, 3) := by decide +kernel
theorem dX11_needWay_9 : decode cX11_needWay 9 = .ok (.new 266, 3) := by decide +kernel
theorem dX11_needWay_12 : decode cX11_needWay 12 = .ok (.dup, 1) := by decide +kernel
theorem dX11_needWay_13 : decode cX11_needWay 13 = .ok (.ldc_w 305, 3) := by decide +kernel
theorem dX11_needWay_16 : decode cX11_needWay 16 = .ok (.invokespecial 270, 3) := by decide +kernel
theorem dX11_needWay_19 : decode cX11_needWay 19 = .ok (.athrow, 1) := by decide +kernel
theorem dX11_needWay_20 : decode cX11_needWay 20 = .ok (.return_, 1) := by decide +kernel
theorem dX11_needManner_0 : decode cX11_needManner 0 = .ok (.iload_n 0, 1) := by decide +kernel
theorem dX11_needManner_1 : decode cX11_needManner 1 = .ok (.ifCond .lt 8, 3) := by decide +kernel
theorem dX11_needManner_4 : decode cX11_needManner 4 = .ok (.iload_n 0, 1) := by decide +kernel
theorem dX11_needManner_5 : decode cX11_needManner 5 = .ok (.iconst 2, 1) := by decide +kernel
theorem dX11_needManner_6 : decode cX11_needManner 6 = .ok (.if_icmp .le 14, 3) := by decide +kernel
theorem dX11_needManner_9 : decode cX11_needManner 9 = .ok (.new 266, 3) := by decide +kernel
theorem dX11_needManner_12 : decode cX11_needManner 12 = .ok (.dup, 1) := by decide +kernel
theorem dX11_needManner_13 : decode cX11_needManner 13 = .ok (.ldc_w 333, 3) := by decide +kernel
theorem dX11_needManner_16 : decode cX11_needManner 16 = .ok (.invokespecial 270, 3) := by decide +kernel
theorem dX11_needManner_19 : decode cX11_needManner 19 = .ok (.athrow, 1) := by decide +kernel
theorem dX11_needManner_20 : decode cX11_needManner 20 = .ok (.iload_n 1, 1) := by decide +kernel
theorem dX11_needManner_21 : decode cX11_needManner 21 = .ok (.iconst 1, 1) := by decide +kernel
theorem dX11_needManner_22 : decode cX11_needManner 22 = .ok (.if_icmp .lt 19, 3) := by decide +kernel
theorem dX11_needManner_25 : decode cX11_needManner 25 = .ok (.iload_n 1, 1) := by decide +kernel
theorem dX11_needManner_26 : decode cX11_needManner 26 = .ok (.bipush 20, 2) := by decide +kernel
theorem dX11_needManner_28 : decode cX11_needManner 28 = .ok (.if_icmp .gt 13, 3) := by decide +kernel
theorem dX11_needManner_31 : decode cX11_needManner 31 = .ok (.iload_n 2, 1) := by decide +kernel
theorem dX11_needManner_32 : decode cX11_needManner 32 = .ok (.ifCond .lt 9, 3) := by decide +kernel
theorem dX11_needManner_35 : decode cX11_needManner 35 = .ok (.iload_n 2, 1) := by decide +kernel
theorem dX11_needManner_36 : decode cX11_needManner 36 = .ok (.bipush 60, 2) := by decide +kernel
theorem dX11_needManner_38 : decode cX11_needManner 38 = .ok (.if_icmp .le 14, 3) := by decide +kernel
theorem dX11_needManner_41 : decode cX11_needManner 41 = .ok (.new 266, 3) := by decide +kernel
theorem dX11_needManner_44 : decode cX11_needManner 44 = .ok (.dup, 1) := by decide +kernel
theorem dX11_needManner_45 : decode cX11_needManner 45 = .ok (.ldc_w 335, 3) := by decide +kernel
theorem dX11_needManner_48 : decode cX11_needManner 48 = .ok (.invokespecial 270, 3) := by decide +kernel
theorem dX11_needManner_51 : decode cX11_needManner 51 = .ok (.athrow, 1) := by decide +kernel
theorem dX11_needManner_52 : decode cX11_needManner 52 = .ok (.return_, 1) := by decide +kernel
theorem dX11_needNames_0 : decode cX11_needNames 0 = .ok (.aload_n 0, 1) := by decide +kernel
theorem dX11_needNames_1 : decode cX11_needNames 1 = .ok (.getfield 77, 3) := by decide +kernel
theorem dX11_needNames_4 : decode cX11_needNames 4 = .ok (.getfield 133, 3) := by decide +kernel
theorem dX11_needNames_7 : decode cX11_needNames 7 = .ok (.ifCond .ne 14, 3) := by decide +kernel
theorem dX11_needNames_10 : decode cX11_needNames 10 = .ok (.new 337, 3) := by decide +kernel
theorem dX11_needNames_13 : decode cX11_needNames 13 = .ok (.dup, 1) := by decide +kernel
theorem dX11_needNames_14 : decode cX11_needNames 14 = .ok (.ldc_w 339, 3) := by decide +kernel
theorem dX11_needNames_17 : decode cX11_needNames 17 = .ok (.invokespecial 341, 3) := by decide +kernel
theorem dX11_needNames_20 : decode cX11_needNames 20 = .ok (.athrow, 1) := by decide +kernel
theorem dX11_needNames_21 : decode cX11_needNames 21 = .ok (.return_, 1) := by decide +kernel
theorem dX11_needRows_0 : decode cX11_needRows 0 = .ok (.aload_n 0, 1) := by decide +kernel
theorem dX11_needRows_1 : decode cX11_needRows 1 = .ok (.getfield 40, 3) := by decide +kernel
theorem dX11_needRows_4 : decode cX11_needRows 4 = .ok (.getfield 124, 3) := by decide +kernel
theorem dX11_needRows_7 : decode cX11_needRows 7 = .ok (.iload_n 1, 1) := by decide +kernel
theorem dX11_needRows_8 : decode cX11_needRows 8 = .ok (.if_icmp .ge 14, 3) := by decide +kernel
theorem dX11_needRows_11 : decode cX11_needRows 11 = .ok (.new 337, 3) := by decide +kernel
theorem dX11_needRows_14 : decode cX11_needRows 14 = .ok (.dup, 1) := by decide +kernel
theorem dX11_needRows_15 : decode cX11_needRows 15 = .ok (.ldc_w 342, 3) := by decide +kernel
theorem dX11_needRows_18 : decode cX11_needRows 18 = .ok (.invokespecial 341, 3) := by decide +kernel
theorem dX11_needRows_21 : decode cX11_needRows 21 = .ok (.athrow, 1) := by decide +kernel
theorem dX11_needRows_22 : decode cX11_needRows 22 = .ok (.return_, 1) := by decide +kernel
theorem dX11_needTree_0 : decode cX11_needTree 0 = .ok (.aload_n 0, 1) := by decide +kernel
theorem dX11_needTree_1 : decode cX11_needTree 1 = .ok (.getfield 87, 3) := by decide +kernel
theorem dX11_needTree_4 : decode cX11_needTree 4 = .ok (.getfield 188, 3) := by decide +kernel
theorem dX11_needTree_7 : decode cX11_needTree 7 = .ok (.ifCond .ne 14, 3) := by decide +kernel
theorem dX11_needTree_10 : decode cX11_needTree 10 = .ok (.new 337, 3) := by decide +kernel
theorem dX11_needTree_13 : decode cX11_needTree 13 = .ok (.dup, 1) := by decide +kernel
theorem dX11_needTree_14 : decode cX11_needTree 14 = .ok (.ldc_w 344, 3) := by decide +kernel
theorem dX11_needTree_17 : decode cX11_needTree 17 = .ok (.invokespecial 341, 3) := by decide +kernel
theorem dX11_needTree_20 : decode cX11_needTree 20 = .ok (.athrow, 1) := by decide +kernel
theorem dX11_needTree_21 : decode cX11_needTree 21 = .ok (.return_, 1) := by decide +kernel
set_option maxRecDepth 20000 in
theorem ggX11_needDecider_X11_needTree : GoodIn wsX11_needDecider wsX11_needTree := goodIn_ca (goodIn_r _ [9, 1, 2, 10, 11, 12, 13, 14, 15, 16, 17, 18, 19, 20, 21, 22, 23, 24, 25, 26, 27, 46, 47, 48, 49, 50, 51, 52, 53, 54, 55, 56, 57, 58, 59] (by decide +kernel) (by decide +kernel)) (goodIn_sub (fun _ h => List.mem_cons_of_mem _ (List.mem_append_right _ h)) (by decide +kernel))
set_option maxRecDepth 20000 in
theorem gX11_needDecider_X11_needTree : GoodIn wsX11_needDecider (wsV RX11 202 RX11 yX11_needTree wsX11_needTree) := goodIn_app (goodIn_of _ (by decide +kernel)) ggX11_needDecider_X11_needTree
theorem dX11_needDecider_0 : decode cX11_needDecider 0 = .ok (.aload_n 0, 1) := by decide +kernel
theorem dX11_needDecider_1 : decode cX11_needDecider 1 = .ok (.invokevirtual 202, 3) := by decide +kernel
theorem dX11_needDecider_4 : decode cX11_needDecider 4 = .ok (.iload_n 1, 1) := by decide +kernel
theorem dX11_needDecider_5 : decode cX11_needDecider 5 = .ok (.iconst 1, 1) := by decide +kernel
theorem dX11_needDecider_6 : decode cX11_needDecider 6 = .ok (.if_icmp .ne 24, 3) := by decide +kernel
theorem dX11_needDecider_9 : decode cX11_needDecider 9 = .ok (.aload_n 0, 1) := by decide +kernel
theorem dX11_needDecider_10 : decode cX11_needDecider 10 = .ok (.getfield 70, 3) := by decide +kernel
theorem dX11_needDecider_13 : decode cX11_needDecider 13 = .ok (.getfield 317, 3) := by decide +kernel
theorem dX11_needDecider_16 : decode cX11_needDecider 16 = .ok (.ifCond .ne 14, 3) := by decide +kernel
theorem dX11_needDecider_19 : decode cX11_needDecider 19 = .ok (.new 337, 3) := by decide +kernel
theorem dX11_needDecider_22 : decode cX11_needDecider 22 = .ok (.dup, 1) := by decide +kernel
theorem dX11_needDecider_23 : decode cX11_needDecider 23 = .ok (.ldc_w 346, 3) := by decide +kernel
theorem dX11_needDecider_26 : decode cX11_needDecider 26 = .ok (.invokespecial 341, 3) := by decide +kernel
theorem dX11_needDecider_29 : decode cX11_needDecider 29 = .ok (.athrow, 1) := by decide +kernel
theorem dX11_needDecider_30 : decode cX11_needDecider 30 = .ok (.return_, 1) := by decide +kernel
set_option maxRecDepth 20000 in
theorem ggX11_needNodeWithRows_X11_needTree : GoodIn wsX11_needNodeWithRows wsX11_needTree := goodIn_ca (goodIn_r _ [10, 1, 2, 5, 11, 47, 48, 49, 50, 51, 52, 53, 54, 55, 56, 57, 58, 59, 60, 61, 62, 66, 67, 68, 69, 70, 71, 72, 73, 74, 75, 76, 77, 78, 79] (by decide +kernel) (by decide +kernel)) (goodIn_sub (fun _ h => List.mem_cons_of_mem _ (List.mem_append_left _ (List.mem_append_right _ h))) (by decide +kernel))
set_option maxRecDepth 20000 in
theorem gX11_needNodeWithRows_X11_needTree : GoodIn wsX11_needNodeWithRows (wsV RX11 202 RX11 yX11_needTree wsX11_needTree) := goodIn_app (goodIn_of _ (by decide +kernel)) ggX11_needNodeWithRows_X11_needTree
theorem dX11_needNodeWithRows_0 : decode cX11_needNodeWithRows 0 = .ok (.aload_n 0, 1) := by decide +kernel
theorem dX11_needNodeWithRows_1 : decode cX11_needNodeWithRows 1 = .ok (.invokevirtual 202, 3) := by decide +kernel
theorem dX11_needNodeWithRows_4 : decode cX11_needNodeWithRows 4 = .ok (.aload_n 0, 1) := by decide +kernel
theorem dX11_needNodeWithRows_5 : decode cX11_needNodeWithRows 5 = .ok (.iload_n 1, 1) := by decide +kernel
theorem dX11_needNodeWithRows_6 : decode cX11_needNodeWithRows 6 = .ok (.invokevirtual 209, 3) := by decide +kernel
theorem dX11_needNodeWithRows_9 : decode cX11_needNodeWithRows 9 = .ok (.iconst 0, 1) := by decide +kernel
theorem dX11_needNodeWithRows_10 : decode cX11_needNodeWithRows 10 = .ok (.istore_n 2, 1) := by decide +kernel
theorem dX11_needNodeWithRows_11 : decode cX11_needNodeWithRows 11 = .ok (.iload_n 2, 1) := by decide +kernel
theorem dX11_needNodeWithRows_12 : decode cX11_needNodeWithRows 12 = .ok (.aload_n 0, 1) := by decide +kernel
theorem dX11_needNodeWithRows_13 : decode cX11_needNodeWithRows 13 = .ok (.getfield 40, 3) := by decide +kernel
theorem dX11_needNodeWithRows_16 : decode cX11_needNodeWithRows 16 = .ok (.getfield 124, 3) := by decide +kernel
theorem dX11_needNodeWithRows_19 : decode cX11_needNodeWithRows 19 = .ok (.if_icmp .ge 26, 3) := by decide +kernel
theorem dX11_needNodeWithRows_22 : decode cX11_needNodeWithRows 22 = .ok (.aload_n 0, 1) := by decide +kernel
theorem dX11_needNodeWithRows_23 : decode cX11_needNodeWithRows 23 = .ok (.getfield 87, 3) := by decide +kernel
theorem dX11_needNodeWithRows_26 : decode cX11_needNodeWithRows 26 = .ok (.aload_n 0, 1) := by decide +kernel
theorem dX11_needNodeWithRows_27 : decode cX11_needNodeWithRows 27 = .ok (.getfield 40, 3) := by decide +kernel
theorem dX11_needNodeWithRows_30 : decode cX11_needNodeWithRows 30 = .ok (.iload_n 2, 1) := by decide +kernel
theorem dX11_needNodeWithRows_31 : decode cX11_needNodeWithRows 31 = .ok (.iload_n 1, 1) := by decide +kernel
theorem dX11_needNodeWithRows_32 : decode cX11_needNodeWithRows 32 = .ok (.invokevirtual 350, 3) := by decide +kernel
theorem dX11_needNodeWithRows_35 : decode cX11_needNodeWithRows 35 = .ok (.ifCond .eq 4, 3) := by decide +kernel
theorem dX11_needNodeWithRows_38 : decode cX11_needNodeWithRows 38 = .ok (.return_, 1) := by decide +kernel
theorem dX11_needNodeWithRows_39 : decode cX11_needNodeWithRows 39 = .ok (.iinc 2 1, 3) := by decide +kernel
theorem dX11_needNodeWithRows_42 : decode cX11_needNodeWithRows 42 = .ok (.goto (-31), 3) := by decide +kernel
theorem dX11_needNodeWithRows_45 : decode cX11_needNodeWithRows 45 = .ok (.new 337, 3) := by decide +kernel
theorem dX11_needNodeWithRows_48 : decode cX11_needNodeWithRows 48 = .ok (.dup, 1) := by decide +kernel
theorem dX11_needNodeWithRows_49 : decode cX11_needNodeWithRows 49 = .ok (.ldc_w 354, 3) := by decide +kernel
theorem dX11_needNodeWithRows_52 : decode cX11_needNodeWithRows 52 = .ok (.invokespecial 341, 3) := by decide +kernel
theorem dX11_needNodeWithRows_55 : decode cX11_needNodeWithRows 55 = .ok (.athrow, 1) := by decide +kernel
theorem dX11_tableOf_0 : decode cX11_tableOf 0 = .ok (.iload_n 1, 1) := by decide +kernel
theorem dX11_tableOf_1 : decode cX11_tableOf 1 = .ok (.ifCond .ne 10, 3) := by decide +kernel
theorem dX11_tableOf_4 : decode cX11_tableOf 4 = .ok (.aload_n 0, 1) := by decide +kernel
theorem dX11_tableOf_5 : decode cX11_tableOf 5 = .ok (.getfield 40, 3) := by decide +kernel
theorem dX11_tableOf_8 : decode cX11_tableOf 8 = .ok (.goto 7, 3) := by decide +kernel
theorem dX11_tableOf_11 : decode cX11_tableOf 11 = .ok (.aload_n 0, 1) := by decide +kernel
theorem dX11_tableOf_12 : decode cX11_tableOf 12 = .ok (.getfield 44, 3) := by decide +kernel
theorem dX11_tableOf_15 : decode cX11_tableOf 15 = .ok (.areturn, 1) := by decide +kernel
abbrev vwCl : List vw_C := [(RX0, TX0, 3), (RX1, TX1, 19), (RX2, TX2, 5), (RX3, TX3, 2), (RX4, TX4, 10), (RX5, TX5, 18), (RX6, TX6, 5), (RX7, TX7, 11), (RX8, TX8, 3), (RX9, TX9, 14), (RX10, TX10, 1), (RX11, TX11, 16), (RX12, TX12, 96)]
end
section
/-! Rows of this claim's own over the kit's: a world and what goes with it in one hypothesis (zw); calls and ends over it. -/
-- the text constants that are used: class, place in its pool, text
def zStrs : List (String × Nat × String) := [(RX4, 81, "classes"), (RX11, 331, "training is 0, holdout is 1"), (RX11, 339, "there are no names"), (RX11, 158, "no such row or attribute"), (RX11, 333, "modes are 0 to 2"), (RX11, 335, "least is 1 to 20, depth 0 to 60"), (RX11, 342, "training has too few rows"), (RX11, 344, "there is no tree"), (RX11, 348, "no such node"), (RX11, 225, "a node has nothing of that number"), (RX11, 354, "no row of training comes to the node"), (RX11, 356, "no such attribute"), (RX11, 244, "a split has nothing of that number"), (RX11, 305, "the tree is 0, the rules are 1"), (RX11, 346, "rules were not made of the tree"), (RX11, 268, "folds are 2 to 10"), (RX11, 281, "no such rule"), (RX11, 287, "no such condition"), (RX11, 291, "the rule has fewer conditions")]
-- the exceptions that are thrown; those that a handler of another doesn't take
def zExcs : List String := ["java/lang/IllegalArgumentException", "java/lang/IllegalStateException", "java/util/NoSuchElementException"]
def zNcs : List (String × String) := [("java/lang/IllegalStateException", "java/lang/IllegalArgumentException"), ("java/util/NoSuchElementException", "java/lang/IllegalArgumentException")]
-- the private constructors that another class of the nest calls
def zNests : List (String × Nat × MethodName) := [(RX11, 59, yX7_init), (RX11, 69, yX5_init), (RX11, 76, yX2_init), (RX11, 86, yX9_init), (RX1, 38, yX7_init), (RX6, 23, yX3_init)]
-- what holds of the machine all along: the texts are there; an exception is of its own class, and of no other of them
def zE (U : State) : Prop := (∀ q ∈ zStrs, ∃ sa : Nat, vk_R q.1 q.2.1 q.2.2 sa U) ∧ (∀ C ∈ zExcs, (Cond.castable C C).before #[] U = true) ∧ (∀ q ∈ zNcs, va_Nc q.1 q.2 U) ∧ va_AO RX7 U ∧ ∀ q ∈ zNests, va_Nw (.methodLinkNest q.1 q.2.1 q.2.2 RX11) U
theorem z_castable {C : String} {s U : State} (hW : s.vm.Alike U.vm) (h : (Cond.castable C C).before #[] s = true) : (Cond.castable C C).before #[] U = true :=
  va_tabs (u := s.setVm U.vm) rfl rfl ((Cond.castable_setVm (args := #[]) hW C C).trans h)
theorem zE.same {u U : State} (hv : U.vm = u.vm) (h : zE u) : zE U := ⟨fun q hq => let ⟨sa, hs⟩ := h.1 q hq; ⟨sa, vk_R.same hv hs⟩, fun C hC => va_tabs (u := u) rfl hv.symm (h.2.1 C hC), fun q hq => va_Nc.moved (by rw [hv]; exact Vm.Alike.refl _) (h.2.2.1 q hq), va_AO.moved (by rw [hv]; exact Vm.Alike.refl _) h.2.2.2.1, fun q hq => va_Nw.same rfl hv.symm (h.2.2.2.2 q hq)⟩
theorem zE.warm {s U : State} (hW : s.WarmedH U.vm) (h : zE s) : zE U := ⟨fun q hq => let ⟨sa, hs⟩ := h.1 q hq; ⟨sa, vk_R.warm hW hs⟩, fun C hC => z_castable hW.alike (h.2.1 C hC), fun q hq => va_Nc.moved hW.alike (h.2.2.1 q hq), va_AO.moved hW.alike h.2.2.2.1, fun q hq => va_Nw.warmM hW (h.2.2.2.2 q hq)⟩
-- the two statics of Throwable lie outside A
def zT (A : Nat → Prop) (U : State) (H : Heap) : Prop := vx_Zq Bundle.tN "UNASSIGNED_STACK" Bundle.steD A U H ∧ vx_Zq Bundle.tN "SUPPRESSED_SENTINEL" Bundle.listD A U H
theorem zT.moved {A : Nat → Prop} {u U : State} {H : Heap} (hvm : u.vm.Alike U.vm) (h : zT A u H) : zT A U H := ⟨h.1.moved hvm, h.2.moved hvm⟩
theorem zT.kept {A : Nat → Prop} {U : State} {H H1 : Heap} (h : zT A U H) (hq : ∀ a : Nat, a < H.size → ¬ A a → H1[a]? = H[a]?) : zT A U H1 := ⟨h.1.kept hq, h.2.kept hq⟩
theorem zT.narrow {A B : Nat → Prop} {U : State} {H : Heap} (h : zT A U H) (hAB : ∀ q, B q → A q) : zT B U H := ⟨h.1.narrow hAB, h.2.narrow hAB⟩
/-- a method's start: the world ws, the arrays' kinds tys, a heap of sz -/
def zI (D : va_G) (ws : va_W) (tys : List (ClassId × FieldType)) (sz : Nat) (U : State) : Prop :=
  U.heap.size = sz ∧ va_P D vwCl ws U.heap ∧ va_K D vwCl tys U ∧ va_D (fun _ => True) ws ∧ zE U ∧ zT (va_A ws sz) U U.heap
/-- behind it -/
def zB (D : va_G) (A : Nat → Prop) (ws : va_W) (tys : List (ClassId × FieldType)) (t : State) : Prop := va_P D vwCl ws t.heap ∧ va_K D vwCl tys t ∧ va_D A ws
/-- amid it -/
def zw (D : va_G) (ws : va_W) (tys : List (ClassId × FieldType)) (A : Nat → Prop) (H0 : Heap) (s : State) (H : Heap) (locs : List Loc) : Prop :=
  va_K D vwCl tys s ∧ va_P D vwCl ws H ∧ va_D A ws ∧ va_S A H0 H locs ∧ (∀ q, H0.size ≤ q → A q) ∧ zE s ∧ zT A s H0
theorem zI.blind {D : va_G} {ws : va_W} {tys : List (ClassId × FieldType)} {sz : Nat} {U : State} {g : JFrame} {mk : MethodId} {a : Array Value} (h : zI D ws tys sz U) : zI D ws tys sz (U.calling g mk a) :=
  ⟨h.1, h.2.1, va_K.moved (u := U) (U := U.calling g mk a) (Vm.Alike.refl U.vm) h.2.2.1, h.2.2.2.1, zE.same (u := U) rfl h.2.2.2.2.1, zT.moved (u := U) (U := U.calling g mk a) (Vm.Alike.refl U.vm) h.2.2.2.2.2⟩
theorem zI.start {D : va_G} {ws : va_W} {tys : List (ClassId × FieldType)} {sz : Nat} {s : State} (h : zI D ws tys sz s) : s.heap.size = sz ∧ zw D ws tys (va_A ws sz) s.heap s s.heap [] := by
  obtain ⟨rfl, hP, hK, hD, hE, hT⟩ := h
  exact ⟨rfl, hK, hP, hD.self, va_S.rf, fun q h => Or.inr h, hE, hT⟩
theorem z_fm {α β : Type} {f : α → Option β} {is : List α} {l : List β} (h : is.map f = l.map some) : is.filterMap f = l := by
  induction is generalizing l with
  | nil => cases l with
    | nil => rfl
    | cons b r => simp at h
  | cons a t ih => cases l with
    | nil => simp at h
    | cons b r =>
      rw [List.map_cons, List.map_cons] at h
      obtain ⟨h1, h2⟩ := List.cons.inj h
      rw [List.filterMap_cons, h1]
      exact congrArg (b :: ·) (ih h2)
section ZW
variable {D : va_G} {ws : va_W} {tys : List (ClassId × FieldType)} {A : Nat → Prop} {H0 : Heap} {s : State} {H : Heap} {locs : List Loc}
theorem zw.sub (z : zw D ws tys A H0 s H locs) {ws' : va_W} {tys' : List (ClassId × FieldType)} (is it : List Nat) (hn : va_nd is = true) (hs : is.map (fun i => ws[i]?) = ws'.map some) (ht : it.filterMap (fun i => tys[i]?) = tys') : zw D ws' tys' A H0 s H locs :=
  ⟨z.1.sub it ht, z.2.1.sub is (z_fm hs), z.2.2.1.sub is hn hs, z.2.2.2.1, z.2.2.2.2.1, z.2.2.2.2.2.1, z.2.2.2.2.2.2⟩
theorem zw.B (z : zw D ws tys A s.heap s H locs) {t : State} (ht : t.heap = H) (hvm : s.vm.Alike t.vm) : zB D A ws tys t := ⟨by rw [ht]; exact z.2.1, va_K.moved hvm z.1, z.2.2.1⟩
/-- what a callee finds -/
theorem zw.I (z : zw D ws tys A H0 s H locs) {wc : va_W} {tysC : List (ClassId × FieldType)} (isC itC : List Nat) (hC : isC.map (fun i => ws[i]?) = wc.map some) (hnC : va_nd isC = true) (hT : itC.filterMap (fun i => tys[i]?) = tysC) {U : State} (hU : U.heap = H) (hW : s.WarmedH U.vm) : zI D wc tysC H.size U := by
  obtain ⟨hK, hP, hD, hS, hA, hE, hT0⟩ := z
  exact ⟨by rw [hU], by rw [hU]; exact hP.sub isC (z_fm hC), va_K.moved hW.alike (hK.sub itC hT), (hD.sub isC hnC hC).weaken (fun _ _ _ _ => trivial), zE.warm hW hE, by rw [hU]; exact zT.moved hW.alike ((hT0.kept hS.2.1).narrow (va_free hD hS hA isC hC))⟩
theorem z_preS (z : zw D ws tys A H0 s H locs) {wc : va_W} {tysC : List (ClassId × FieldType)} {As : List Value} (isC itC : List Nat) (hC : isC.map (fun i => ws[i]?) = wc.map some) (hnC : va_nd isC = true) (hT : itC.filterMap (fun i => tys[i]?) = tysC) : PreS s H (va_Pc As (zI D wc tysC H.size)) As :=
  ⟨fun _ _ _ _ q => ⟨q.1, q.2.blind⟩, fun _ hU hW => ⟨rfl, z.I isC itC hC hnC hT hU hW⟩⟩
theorem z_preV (z : zw D ws tys A H0 s H locs) {wc : va_W} {tysC : List (ClassId × FieldType)} {As : List Value} {b ci : Nat} {fs : List Value} {q : vw_C} (isC itC : List Nat) (hC : isC.map (fun i => ws[i]?) = wc.map some) (hnC : va_nd isC = true) (hT : itC.filterMap (fun i => tys[i]?) = tysC) (q0 : Nat) (he : ws[q0]? = some (b, .inr (ci, fs))) (hc : vwCl[ci]? = some q) : PreV s H q.1 b (va_Pc (.ref b :: As) (zI D wc tysC H.size)) As :=
  ⟨fun _ _ _ _ q => ⟨q.1, q.2.blind⟩, va_recv z.1 z.2.1 hc he, fun _ hU hW => ⟨rfl, z.I isC itC hC hnC hT hU hW⟩⟩
theorem zw.free (z : zw D ws tys A H0 s H locs) {wc : va_W} (isC : List Nat) (hC : isC.map (fun i => ws[i]?) = wc.map some) : ∀ q, va_A wc H.size q → A q := va_free z.2.2.1 z.2.2.2.1 z.2.2.2.2.1 isC hC
theorem zw.join (z : zw D ws tys A H0 s H locs) {wc wr : va_W} {H1 : Heap} {locs1 : List Loc} {t : State} (isC isR : List Nat) (hC : isC.map (fun i => ws[i]?) = wc.map some) (hR : isR.map (fun i => ws[i]?) = wr.map some) (hn : va_nd isR = true) (hdis : ∀ i ∈ isR, i ∉ isC)
    (ht : t.heap = H1) (hvm : s.vm.Alike t.vm) (hk1 : ∀ q : Nat, q < H.size → ¬ va_A wc H.size q → H1[q]? = H[q]?) (hS1 : va_S A H0 H1 locs1) {w1 : va_W} {tys1 : List (ClassId × FieldType)} (h : zB D (va_A wc H.size) w1 tys1 t) : zw D (wr ++ w1) (tys ++ tys1) A H0 s H1 locs1 := by
  obtain ⟨hP1, hK1, hD1⟩ := h
  rw [ht] at hP1
  obtain ⟨hP, hD⟩ := va_join z.2.1 z.2.2.1 isC isR hC hR hn hdis hk1 (z.free isC hC) hP1 hD1
  exact ⟨z.1.app (va_K.moved hvm.symm hK1), hP, hD, hS1, z.2.2.2.2.1, z.2.2.2.2.2.1, z.2.2.2.2.2.2⟩
/-- behind a throw: the caller's other cells -/
theorem zw.left (z : zw D ws tys A H0 s H locs) {wc wr : va_W} {H1 : Heap} {locs1 : List Loc} (isC isR : List Nat) (hC : isC.map (fun i => ws[i]?) = wc.map some) (hR : isR.map (fun i => ws[i]?) = wr.map some) (hn : va_nd isR = true) (hdis : ∀ i ∈ isR, i ∉ isC)
    (hk1 : ∀ q : Nat, q < H.size → ¬ va_A wc H.size q → H1[q]? = H[q]?) (hS1 : va_S A H0 H1 locs1) : zw D wr tys A H0 s H1 locs1 := by
  obtain ⟨hP, hD⟩ := va_join (w1 := []) z.2.1 z.2.2.1 isC isR hC hR hn hdis hk1 (z.free isC hC) (fun k q h => by simp at h) ⟨fun i j p q h => by simp at h, fun k q h => by simp at h⟩
  rw [List.append_nil] at hP hD
  exact ⟨z.1, hP, hD, hS1, z.2.2.2.2.1, z.2.2.2.2.2.1, z.2.2.2.2.2.2⟩
end ZW
section ZR
variable {p : Program} {l : Launch} {e : Env} {R : Room} {s : State} {m : MethodId} {args : Array Value} {below : List Frame} {meth : Method} {c : Code} {H : Heap} {locs : List Loc} {cells slots : Nat} {Q : State → Prop}
variable {pc : Nat} {ls : Array Slot} {rest st0 : List Value} {a : Array Value} {A : Nat → Prop} {H0 : Heap} {mc ms : Nat}
variable {D : va_G} {ws : va_W} {tys : List (ClassId × FieldType)} {cc : ByteArray}
theorem z_begin {g : JFrame} (z : zw D ws tys A H0 s H locs) (k : ∀ (H : Heap) (locs : List Loc), zw D ws tys A H0 s H locs → W p l e R s m args below meth c H locs cells slots Q g) : W p l e R s m args below meth c H locs cells slots Q g := k _ _ z
/-- the top by another name -/
theorem z_ti {x y : Int32} (h : x = y) (k : W p l e R s m args below meth c H locs cells slots Q (F0 m pc ls (.int y :: rest))) : W p l e R s m args below meth c H locs cells slots Q (F0 m pc ls (.int x :: rest)) := by rw [h]; exact k
theorem z_tl {x y : Int64} (h : x = y) (k : W p l e R s m args below meth c H locs cells slots Q (F0 m pc ls (.long y :: rest))) : W p l e R s m args below meth c H locs cells slots Q (F0 m pc ls (.long x :: rest)) := by rw [h]; exact k
theorem z_ai {x : Int32} (k : ∀ y : Int32, W p l e R s m args below meth c H locs cells slots Q (F0 m pc ls (.int y :: rest))) : W p l e R s m args below meth c H locs cells slots Q (F0 m pc ls (.int x :: rest)) := k x
theorem z_al {x : Int64} (k : ∀ y : Int64, W p l e R s m args below meth c H locs cells slots Q (F0 m pc ls (.long y :: rest))) : W p l e R s m args below meth c H locs cells slots Q (F0 m pc ls (.long x :: rest)) := k x
theorem z_calli {P : Int32 → Prop} {B : State → Prop} {wc wr : va_W} (z : zw D ws tys A H0 s H locs) (isC isR : List Nat) (hC : isC.map (fun i => ws[i]?) = wc.map some) (hR : isR.map (fun i => ws[i]?) = wr.map some) (hn : va_nd isR = true) (hdis : ∀ i ∈ isR, i ∉ isC)
    (hr : va_Run p l e R s m args below meth c H locs cells slots mc ms (F0 m pc ls st0) rest (va_Qi (fun r (_ : Unit) => P r) (fun _ t => B t) (va_A wc H.size) a) (va_A wc H.size))
    (kk : ∀ (r : Int32) (t : State) (H1 : Heap) (locs1 : List Loc), P r → B t → (∀ {w1 : va_W} {tys1 : List (ClassId × FieldType)}, zB D (va_A wc H.size) w1 tys1 t → zw D (wr ++ w1) (tys ++ tys1) A H0 s H1 locs1) → W p l e R s m args below meth c H1 locs1 (cells + mc) (slots + ms) Q (F0 m (pc + 3) ls (.int r :: rest))) : W p l e R s m args below meth c H locs cells slots Q (F0 m pc ls st0) :=
  va_calli hr z.2.2.2.1 (fun q _ h => z.free isC hC q h) (z.free isC hC) (fun r _ t H1 locs1 ht hvm hw hB _ hk1 hS => kk r t H1 locs1 hw hB (fun h => z.join isC isR hC hR hn hdis ht hvm hk1 hS h))
theorem z_calll {P : Int64 → Prop} {B : State → Prop} {wc wr : va_W} (z : zw D ws tys A H0 s H locs) (isC isR : List Nat) (hC : isC.map (fun i => ws[i]?) = wc.map some) (hR : isR.map (fun i => ws[i]?) = wr.map some) (hn : va_nd isR = true) (hdis : ∀ i ∈ isR, i ∉ isC)
    (hr : va_Run p l e R s m args below meth c H locs cells slots mc ms (F0 m pc ls st0) rest (va_Ql (fun r (_ : Unit) => P r) (fun _ t => B t) (va_A wc H.size) a) (va_A wc H.size))
    (kk : ∀ (r : Int64) (t : State) (H1 : Heap) (locs1 : List Loc), P r → B t → (∀ {w1 : va_W} {tys1 : List (ClassId × FieldType)}, zB D (va_A wc H.size) w1 tys1 t → zw D (wr ++ w1) (tys ++ tys1) A H0 s H1 locs1) → W p l e R s m args below meth c H1 locs1 (cells + mc) (slots + ms) Q (F0 m (pc + 3) ls (.long r :: rest))) : W p l e R s m args below meth c H locs cells slots Q (F0 m pc ls st0) :=
  va_calll hr z.2.2.2.1 (fun q _ h => z.free isC hC q h) (z.free isC hC) (fun r _ t H1 locs1 ht hvm hw hB _ hk1 hS => kk r t H1 locs1 hw hB (fun h => z.join isC isR hC hR hn hdis ht hvm hk1 hS h))
theorem z_callv {B : State → Prop} {wc wr : va_W} (z : zw D ws tys A H0 s H locs) (isC isR : List Nat) (hC : isC.map (fun i => ws[i]?) = wc.map some) (hR : isR.map (fun i => ws[i]?) = wr.map some) (hn : va_nd isR = true) (hdis : ∀ i ∈ isR, i ∉ isC)
    (hr : va_Run p l e R s m args below meth c H locs cells slots mc ms (F0 m pc ls st0) rest (va_Qv (fun (_ : Unit) => True) (fun _ t => B t) (va_A wc H.size) a) (va_A wc H.size))
    (kk : ∀ (t : State) (H1 : Heap) (locs1 : List Loc), B t → (∀ {w1 : va_W} {tys1 : List (ClassId × FieldType)}, zB D (va_A wc H.size) w1 tys1 t → zw D (wr ++ w1) (tys ++ tys1) A H0 s H1 locs1) → W p l e R s m args below meth c H1 locs1 (cells + mc) (slots + ms) Q (F0 m (pc + 3) ls rest)) : W p l e R s m args below meth c H locs cells slots Q (F0 m pc ls st0) :=
  va_callv hr z.2.2.2.1 (fun q _ h => z.free isC hC q h) (z.free isC hC) (fun _ t H1 locs1 ht hvm _ hB _ hk1 hS => kk t H1 locs1 hB (fun h => z.join isC isR hC hR hn hdis ht hvm hk1 hS h))
theorem z_callr {P : Nat → Prop} {B : State → Prop} {wc wr : va_W} (z : zw D ws tys A H0 s H locs) (isC isR : List Nat) (hC : isC.map (fun i => ws[i]?) = wc.map some) (hR : isR.map (fun i => ws[i]?) = wr.map some) (hn : va_nd isR = true) (hdis : ∀ i ∈ isR, i ∉ isC)
    (hr : va_Run p l e R s m args below meth c H locs cells slots mc ms (F0 m pc ls st0) rest (va_Qr (fun (_ : Unit) => True) (fun _ r t => P r ∧ B t) (va_A wc H.size) a) (va_A wc H.size))
    (kk : ∀ (r : Nat) (t : State) (H1 : Heap) (locs1 : List Loc), P r → B t → (∀ {w1 : va_W} {tys1 : List (ClassId × FieldType)}, zB D (va_A wc H.size) w1 tys1 t → zw D (wr ++ w1) (tys ++ tys1) A H0 s H1 locs1) → W p l e R s m args below meth c H1 locs1 (cells + mc) (slots + ms) Q (F0 m (pc + 3) ls (.ref r :: rest))) : W p l e R s m args below meth c H locs cells slots Q (F0 m pc ls st0) :=
  va_callr hr z.2.2.2.1 (fun q _ h => z.free isC hC q h) (z.free isC hC) (fun _ r t H1 locs1 ht hvm _ hB _ hk1 hS => kk r t H1 locs1 hB.1 hB.2 (fun h => z.join isC isR hC hR hn hdis ht hvm hk1 hS h))
/-- what a thrown exception is, in every contract here -/
abbrev zX (PX : String → Prop) (A : Nat → Prop) : String → State → State → Prop := vx_X (fun _ : Unit => True) (fun E _ _ => PX E) A
/-- a call that returns or throws; what is thrown goes on to the caller -/
theorem z_xcalli {P : Int32 → Prop} {PX PX' : String → Prop} {B : State → Prop} {wc wr : va_W} {Qc : Array Value → State → Outcome → State → Prop} {mc' ms' : Nat} (z : zw D ws tys A s.heap s H locs) (hout : ∀ x ∈ c.exceptionTable.toList, False) (hlocks : meth.locks = false) (hpx : ∀ E, PX E → PX' E) (hc9 : cells + mc ≤ mc') (hs9 : slots + ms ≤ ms') (isC isR : List Nat) (hC : isC.map (fun i => ws[i]?) = wc.map some) (hR : isR.map (fun i => ws[i]?) = wr.map some) (hn : va_nd isR = true) (hdis : ∀ i ∈ isR, i ∉ isC)
    (hr : vx_Run p l e R s m args below meth c H locs cells slots mc ms (F0 m pc ls st0) rest (va_Qi (fun r (_ : Unit) => P r) (fun _ t => B t) (va_A wc H.size) a) (zX PX (va_A wc H.size)) (va_A wc H.size))
    (kk : ∀ (r : Int32) (t : State) (H1 : Heap) (locs1 : List Loc), P r → B t → (∀ {w1 : va_W} {tys1 : List (ClassId × FieldType)}, zB D (va_A wc H.size) w1 tys1 t → zw D (wr ++ w1) (tys ++ tys1) A s.heap s H1 locs1) → W p l e R s m args below meth c H1 locs1 (cells + mc) (slots + ms) (vx_MQ below Qc (zX PX' A) args s mc' ms' A) (F0 m (pc + 3) ls (.int r :: rest))) : W p l e R s m args below meth c H locs cells slots (vx_MQ below Qc (zX PX' A) args s mc' ms' A) (F0 m pc ls st0) :=
  vx_calli hr z.2.2.2.1 (fun q _ h => z.free isC hC q h) (z.free isC hC) (fun q _ h => z.free isC hC q h)
    (fun E ce q9 _ t H1 locs1 ht hvm _ hB _ _ hS hce hcv hcl => vx_out (fun x hx => (hout x hx).elim) hlocks hce hcv hcl (fun t9 h9 _ => ⟨(), trivial, hpx E hB, hS.F h9⟩) hS.2.2 hc9 hs9)
    (fun r _ t H1 locs1 ht hvm hw hB _ hk1 hS => kk r t H1 locs1 hw hB (fun h => z.join isC isR hC hR hn hdis ht hvm hk1 hS h))
theorem z_xcallv {PX PX' : String → Prop} {B : State → Prop} {wc wr : va_W} {Qc : Array Value → State → Outcome → State → Prop} {mc' ms' : Nat} (z : zw D ws tys A s.heap s H locs) (hout : ∀ x ∈ c.exceptionTable.toList, False) (hlocks : meth.locks = false) (hpx : ∀ E, PX E → PX' E) (hc9 : cells + mc ≤ mc') (hs9 : slots + ms ≤ ms') (isC isR : List Nat) (hC : isC.map (fun i => ws[i]?) = wc.map some) (hR : isR.map (fun i => ws[i]?) = wr.map some) (hn : va_nd isR = true) (hdis : ∀ i ∈ isR, i ∉ isC)
    (hr : vx_Run p l e R s m args below meth c H locs cells slots mc ms (F0 m pc ls st0) rest (va_Qv (fun (_ : Unit) => True) (fun _ t => B t) (va_A wc H.size) a) (zX PX (va_A wc H.size)) (va_A wc H.size))
    (kk : ∀ (t : State) (H1 : Heap) (locs1 : List Loc), B t → (∀ {w1 : va_W} {tys1 : List (ClassId × FieldType)}, zB D (va_A wc H.size) w1 tys1 t → zw D (wr ++ w1) (tys ++ tys1) A s.heap s H1 locs1) → W p l e R s m args below meth c H1 locs1 (cells + mc) (slots + ms) (vx_MQ below Qc (zX PX' A) args s mc' ms' A) (F0 m (pc + 3) ls rest)) : W p l e R s m args below meth c H locs cells slots (vx_MQ below Qc (zX PX' A) args s mc' ms' A) (F0 m pc ls st0) :=
  vx_callv hr z.2.2.2.1 (fun q _ h => z.free isC hC q h) (z.free isC hC) (fun q _ h => z.free isC hC q h)
    (fun E ce q9 _ t H1 locs1 ht hvm _ hB _ _ hS hce hcv hcl => vx_out (fun x hx => (hout x hx).elim) hlocks hce hcv hcl (fun t9 h9 _ => ⟨(), trivial, hpx E hB, hS.F h9⟩) hS.2.2 hc9 hs9)
    (fun _ t H1 locs1 ht hvm _ hB _ hk1 hS => kk t H1 locs1 hB (fun h => z.join isC isR hC hR hn hdis ht hvm hk1 hS h))
/-- a call that returns or throws, with both ways open -/
theorem z_ycalli {P : Int32 → Prop} {PX : String → Prop} {B : State → Prop} {wc wr : va_W} (z : zw D ws tys A H0 s H locs) (isC isR : List Nat) (hC : isC.map (fun i => ws[i]?) = wc.map some) (hR : isR.map (fun i => ws[i]?) = wr.map some) (hn : va_nd isR = true) (hdis : ∀ i ∈ isR, i ∉ isC)
    (hr : vx_Run p l e R s m args below meth c H locs cells slots mc ms (F0 m pc ls st0) rest (va_Qi (fun r (_ : Unit) => P r) (fun _ t => B t) (va_A wc H.size) a) (zX PX (va_A wc H.size)) (va_A wc H.size))
    (kx : ∀ (E : String) (ce : Cell) (q9 : Addr) (H1 : Heap) (locs1 : List Loc), PX E → zw D wr tys A H0 s H1 locs1 → H1[q9]? = some ce → ce.vm = .none → s.vm.findClass E = some ce.cls → vx_W p l e R s m args below meth c H1 locs1 (cells + mc) (slots + ms) Q (F0 m pc ls rest) q9)
    (kk : ∀ (r : Int32) (t : State) (H1 : Heap) (locs1 : List Loc), P r → B t → (∀ {w1 : va_W} {tys1 : List (ClassId × FieldType)}, zB D (va_A wc H.size) w1 tys1 t → zw D (wr ++ w1) (tys ++ tys1) A H0 s H1 locs1) → W p l e R s m args below meth c H1 locs1 (cells + mc) (slots + ms) Q (F0 m (pc + 3) ls (.int r :: rest))) : W p l e R s m args below meth c H locs cells slots Q (F0 m pc ls st0) :=
  vx_calli hr z.2.2.2.1 (fun q _ h => z.free isC hC q h) (z.free isC hC) (fun q _ h => z.free isC hC q h)
    (fun E ce q9 _ t H1 locs1 ht hvm _ hB _ hk1 hS hce hcv hcl => kx E ce q9 H1 locs1 hB (z.left isC isR hC hR hn hdis hk1 hS) hce hcv hcl)
    (fun r _ t H1 locs1 ht hvm hw hB _ hk1 hS => kk r t H1 locs1 hw hB (fun h => z.join isC isR hC hR hn hdis ht hvm hk1 hS h))
-- ends
theorem z_iret {P : Int32 → Prop} {B : State → Prop} {r : Int32} (hx : p.tables.exec = Jvm.exec) (hb : c.code = cc) (hr : meth.sig.returnType = some .int) (hlocks : meth.locks = false) (z : zw D ws tys A s.heap s H locs) (hP : P r) (hB : ∀ t, zB D A ws tys t → B t) (hc : cells ≤ mc) (hs : slots ≤ ms) (hdg : decode cc pc = .ok (.ireturn, 1)) : W p l e R s m args below meth c H locs cells slots (MQ below (va_Qi (fun r (_ : Unit) => P r) (fun _ t => B t) A) args s mc ms A) (F0 m pc ls [.int r]) :=
  W.widen (k := mc) (n := ms) hc hs (W.iret (v := r) hx hb hr (fun t ht hW => ⟨⟨r, (), rfl, hP, hB t (z.B ht hW.alike)⟩, z.2.2.2.1.F ht⟩) z.2.2.2.1.2.2 hdg hlocks)
theorem z_zret {P : Int32 → Prop} {B : State → Prop} {r : Int32} {ty : FieldType} (hx : p.tables.exec = Jvm.exec) (hb : c.code = cc) (hr : meth.sig.returnType = some ty) (hnr : narrow ty (.int r) = .int r) (hlocks : meth.locks = false) (z : zw D ws tys A s.heap s H locs) (hP : P r) (hB : ∀ t, zB D A ws tys t → B t) (hc : cells ≤ mc) (hs : slots ≤ ms) (hdg : decode cc pc = .ok (.ireturn, 1)) : W p l e R s m args below meth c H locs cells slots (MQ below (va_Qi (fun r (_ : Unit) => P r) (fun _ t => B t) A) args s mc ms A) (F0 m pc ls [.int r]) :=
  W.widen (k := mc) (n := ms) hc hs (W.zret (v := r) hx hb hr hnr (fun t ht hW => ⟨⟨r, (), rfl, hP, hB t (z.B ht hW.alike)⟩, z.2.2.2.1.F ht⟩) z.2.2.2.1.2.2 hdg hlocks)
theorem z_lret {P : Int64 → Prop} {B : State → Prop} {r : Int64} (hx : p.tables.exec = Jvm.exec) (hb : c.code = cc) (hr : meth.sig.returnType = some .long) (hlocks : meth.locks = false) (z : zw D ws tys A s.heap s H locs) (hP : P r) (hB : ∀ t, zB D A ws tys t → B t) (hc : cells ≤ mc) (hs : slots ≤ ms) (hdg : decode cc pc = .ok (.lreturn, 1)) : W p l e R s m args below meth c H locs cells slots (MQ below (va_Ql (fun r (_ : Unit) => P r) (fun _ t => B t) A) args s mc ms A) (F0 m pc ls [.long r]) :=
  W.widen (k := mc) (n := ms) hc hs (W.lret (v := r) hx hb hr (fun t ht hW => ⟨⟨r, (), rfl, hP, hB t (z.B ht hW.alike)⟩, z.2.2.2.1.F ht⟩) z.2.2.2.1.2.2 hdg hlocks)
theorem z_vret {B : State → Prop} (hx : p.tables.exec = Jvm.exec) (hb : c.code = cc) (hr : meth.sig.returnType = none) (hlocks : meth.locks = false) (z : zw D ws tys A s.heap s H locs) (hB : ∀ t, zB D A ws tys t → B t) (hc : cells ≤ mc) (hs : slots ≤ ms) (hdg : decode cc pc = .ok (.return_, 1)) : W p l e R s m args below meth c H locs cells slots (MQ below (va_Qv (fun (_ : Unit) => True) (fun _ t => B t) A) args s mc ms A) (F0 m pc ls []) :=
  W.widen (k := mc) (n := ms) hc hs (W.vret hx hb hr (fun t ht hW => ⟨⟨(), rfl, trivial, hB t (z.B ht hW.alike)⟩, z.2.2.2.1.F ht⟩) z.2.2.2.1.2.2 hdg hlocks)
theorem z_aret {P : Nat → Prop} {B : State → Prop} {r : Nat} {rt : FieldType} (hx : p.tables.exec = Jvm.exec) (hb : c.code = cc) (hr : meth.sig.returnType = some rt) (hrt : (∃ n, rt = .object n) ∨ ∃ t, rt = .array t) (hlocks : meth.locks = false) (z : zw D ws tys A s.heap s H locs) (hP : P r) (hB : ∀ t, zB D A ws tys t → B t) (hc : cells ≤ mc) (hs : slots ≤ ms) (hdg : decode cc pc = .ok (.areturn, 1)) : W p l e R s m args below meth c H locs cells slots (MQ below (va_Qr (fun (_ : Unit) => True) (fun _ r t => P r ∧ B t) A) args s mc ms A) (F0 m pc ls [.ref r]) :=
  W.widen (k := mc) (n := ms) hc hs (W.aret (v := .ref r) hx hb hr hrt (Or.inr ⟨r, rfl⟩) (fun t ht hW => ⟨⟨(), r, rfl, trivial, hP, hB t (z.B ht hW.alike)⟩, z.2.2.2.1.F ht⟩) z.2.2.2.1.2.2 hdg hlocks)
end ZR
section ZF
variable {p : Program} {l : Launch} {e : Env} {R : Room} {s : State} {m : MethodId} {args : Array Value} {below : List Frame} {meth : Method} {c : Code} {H : Heap} {locs : List Loc} {cells slots : Nat} {Q : State → Prop}
variable {pc : Nat} {ls : Array Slot} {rest : List Value} {a : Nat} {A : Nat → Prop} {H0 : Heap} {mc ms : Nat}
variable {D : va_G} {ws : va_W} {tys : List (ClassId × FieldType)} {cc : ByteArray} {Ts : List Cond}
theorem zB.sub {t : State} (h : zB D A ws tys t) {ws' : va_W} {tys' : List (ClassId × FieldType)} (is it : List Nat) (hn : va_nd is = true) (hs : is.map (fun i => ws[i]?) = ws'.map some) (ht : it.filterMap (fun i => tys[i]?) = tys') : zB D A ws' tys' t := ⟨h.1.sub is (z_fm hs), h.2.1.sub it ht, h.2.2.sub is hn hs⟩
theorem z_get (hexec : p.tables.exec = Jvm.exec) (hb : c.code = cc) {own ref C : String} {T : u_T} {N ci index : Nat} (hts : ∀ w ∈ Ts, w.before args s = true) (hin : ∀ w ∈ u_ws C T N, w ∈ Ts) (hown : s.vm.findClass own = some m.cls) (z : zw D ws tys A H0 s H locs) (q0 : Nat) {fs : List Value} (he : ws[q0]? = some (a, .inr (ci, fs))) (hc : vwCl[ci]? = some (C, T, N)) (k : Nat) (hk : k < N) (hlink : Cond.fieldLink own index ref (T k).2.1 (T k).2.2.1 ∈ Ts) (hsame : (T k).1 = ref) {v : Value} (hv : fs[k]? = some v) (hdg : decode cc pc = .ok (.getfield index, 3))
    (kk : W p l e R s m args below meth c H locs cells slots Q (F0 m (pc + 3) ls (v :: rest))) : W p l e R s m args below meth c H locs cells slots Q (F0 m pc ls (.ref a :: rest)) :=
  va_get hexec hb hts hin hown z.1 z.2.1 q0 he hc k hk (hts _ hlink) (fun x h9 => by rw [← hsame]; exact h9) hv hdg kk
theorem z_put (hexec : p.tables.exec = Jvm.exec) (hb : c.code = cc) {own ref C : String} {T : u_T} {N ci index : Nat} (hts : ∀ w ∈ Ts, w.before args s = true) (hin : ∀ w ∈ u_ws C T N, w ∈ Ts) (ty0 : Nat → FieldType) (hty : ∀ k, k < N → parseFieldDescriptor (T k).2.2.1 = some (ty0 k)) (hnm : ∀ a, a < N → ∀ b, b < N → a ≠ b → (T a).2.1 ≠ (T b).2.1) (hown : s.vm.findClass own = some m.cls) (z : zw D ws tys A H0 s H locs) (q0 : Nat) {fs : List Value} (he : ws[q0]? = some (a, .inr (ci, fs))) (hc : vwCl[ci]? = some (C, T, N)) (k : Nat) (hk : k < N) (hlink : Cond.fieldLink own index ref (T k).2.1 (T k).2.2.1 ∈ Ts) (hsame : (T k).1 = ref) (hfin : (T k).2.2.2 = false) {v : Value} (hn : narrow (ty0 k) v = v) (hfit : fits (ty0 k) v = true) (hl : k < fs.length)
    (hdg : decode cc pc = .ok (.putfield index, 3)) (kk : ∀ (H1 : Heap) (locs1 : List Loc), zw D (ws.set q0 (a, .inr (ci, fs.set k v))) tys A H0 s H1 locs1 → W p l e R s m args below meth c H1 locs1 cells slots Q (F0 m (pc + 3) ls rest)) : W p l e R s m args below meth c H locs cells slots Q (F0 m pc ls (v :: .ref a :: rest)) :=
  va_put hexec hb hts hin ty0 hty hnm hown z.1 z.2.1 z.2.2.1 z.2.2.2.1 q0 he hc k hk (hts _ hlink) (fun x h9 => by rw [← hsame]; exact h9) hfin (hty k hk) hn hfit hl hdg (fun H1 locs1 hP hD hS => kk H1 locs1 ⟨z.1, hP, hD, hS, z.2.2.2.2⟩)
theorem z_putF (hexec : p.tables.exec = Jvm.exec) (hb : c.code = cc) {own ref C : String} {T : u_T} {N ci index : Nat} (hts : ∀ w ∈ Ts, w.before args s = true) (hin : ∀ w ∈ u_ws C T N, w ∈ Ts) (ty0 : Nat → FieldType) (hty : ∀ k, k < N → parseFieldDescriptor (T k).2.2.1 = some (ty0 k)) (hnm : ∀ a, a < N → ∀ b, b < N → a ≠ b → (T a).2.1 ≠ (T b).2.1) (hown : s.vm.findClass own = some m.cls) (hin2 : meth.name = "<init>") (z : zw D ws tys A H0 s H locs) (q0 : Nat) {fs : List Value} (he : ws[q0]? = some (a, .inr (ci, fs))) (hc : vwCl[ci]? = some (C, T, N)) (k : Nat) (hk : k < N) (hlink : Cond.fieldLink own index ref (T k).2.1 (T k).2.2.1 ∈ Ts) (hsame : (T k).1 = ref) (hfin : (T k).2.2.2 = true) (hdecl : (T k).1 = own) {v : Value} (hn : narrow (ty0 k) v = v) (hfit : fits (ty0 k) v = true) (hl : k < fs.length)
    (hdg : decode cc pc = .ok (.putfield index, 3)) (kk : ∀ (H1 : Heap) (locs1 : List Loc), zw D (ws.set q0 (a, .inr (ci, fs.set k v))) tys A H0 s H1 locs1 → W p l e R s m args below meth c H1 locs1 cells slots Q (F0 m (pc + 3) ls rest)) : W p l e R s m args below meth c H locs cells slots Q (F0 m pc ls (v :: .ref a :: rest)) :=
  va_putF hexec hb hts hin ty0 hty hnm hown z.1 z.2.1 z.2.2.1 z.2.2.2.1 q0 he hc k hk (hts _ hlink) (fun x h9 => by rw [← hsame]; exact h9) hfin hin2 hdecl (hty k hk) hn hfit hl hdg (fun H1 locs1 hP hD hS => kk H1 locs1 ⟨z.1, hP, hD, hS, z.2.2.2.2⟩)
theorem z_new (hexec : p.tables.exec = Jvm.exec) (hb : c.code = cc) {own C : String} {T : u_T} {N ci index : Nat} (hts : ∀ w ∈ Ts, w.before args s = true) (hin : ∀ w ∈ u_ws C T N, w ∈ Ts) (ty : Nat → FieldType) (hty : ∀ k, k < N → parseFieldDescriptor (T k).2.2.1 = some (ty k)) (hown : s.vm.findClass own = some m.cls) (hcl : Cond.classLink own index C ∈ Ts) (hinst : Cond.instantiable C N ∈ Ts) (hini : Cond.initialized C ∈ Ts)
    (z : zw D ws tys A H0 s H locs) (hc : vwCl[ci]? = some (C, T, N)) {fs : List Value} (hfs : (List.range N).map (fun j => defaultValue (ty j)) = fs) {cells' slots' : Nat} (hcells : cells + 1 ≤ R.cells) (hslots : slots + N ≤ R.slots) (hc' : cells + 1 = cells') (hs' : slots + N = slots') (hdg : decode cc pc = .ok (.new index, 3))
    (kk : ∀ (q : Nat) (H1 : Heap), zw D (ws ++ [(q, .inr (ci, fs))]) tys A H0 s H1 locs → W p l e R s m args below meth c H1 locs cells' slots' Q (F0 m (pc + 3) ls (.ref q :: rest))) : W p l e R s m args below meth c H locs cells slots Q (F0 m pc ls rest) := by
  subst hc' hs'
  refine va_new (fs := fs) hexec hb hts hin ty hty hown (hts _ hcl) (hts _ hinst) (hts _ hini) z.1 z.2.1 z.2.2.1 z.2.2.2.1 z.2.2.2.2.1 hc (fun j hj => ?_) hcells hslots hdg (fun q H1 hP hD hS => kk q H1 ⟨z.1, hP, hD, hS, z.2.2.2.2⟩)
  subst hfs
  unfold vp_V
  rw [List.getD_eq_getElem?_getD, List.getElem?_map, List.getElem?_range hj]
  rfl
theorem z_newa (hexec : p.tables.exec = Jvm.exec) (hb : c.code = cc) {atype : ArrayType} {ty : FieldType} (hts : ∀ w ∈ Ts, w.before args s = true) (harr : Cond.arrayClass (newarray.typeOf atype) ∈ Ts) (hty : newarray.typeOf atype = ty) (z : zw D ws tys A H0 s H locs)
    {n : Int32} {N' : Nat} {a0 : vp_A} (ha : ∀ cA : ClassId, vp_cell cA a0 = arrV cA N' (fun _ => defaultValue ty)) (hn : ¬ n < 0) (hN : n.toNatClampNeg = N') (hbytes : N' * componentBytes ty ≤ 536870912) {cells' slots' : Nat} (hcells : cells + 1 ≤ R.cells) (hslots : slots + N' ≤ R.slots) (hc' : cells + 1 = cells') (hs' : slots + N' = slots') (hdg : decode cc pc = .ok (.newarray atype, 2))
    (kk : ∀ (q : Nat) (cA : ClassId) (H1 : Heap), zw D (ws ++ [(q, .inl (cA, a0))]) (tys ++ [(cA, ty)]) A H0 s H1 locs → W p l e R s m args below meth c H1 locs cells' slots' Q (F0 m (pc + 2) ls (.ref q :: rest))) : W p l e R s m args below meth c H locs cells slots Q (F0 m pc ls (.int n :: rest)) := by
  subst hc' hs'
  exact va_newa hexec hb (hts _ harr) hty z.1 z.2.1 z.2.2.1 z.2.2.2.1 z.2.2.2.2.1 ha hn hN hbytes hcells hslots hdg (fun q cA H1 hK hP hD hS => kk q cA H1 ⟨hK, hP, hD, hS, z.2.2.2.2⟩)
theorem z_iald (hexec : p.tables.exec = Jvm.exec) (hb : c.code = cc) (z : zw D ws tys A H0 s H locs) (q0 t0 : Nat) {cA : ClassId} {n : Nat} {f : Nat → Int32} (ha : ws[q0]? = some (a, .inl (cA, n, .inl f))) (ht : tys[t0]? = some (cA, .int)) {i : Int32} (hin : vp_in i n) (hdg : decode cc pc = .ok (.iaload, 1))
    (kk : W p l e R s m args below meth c H locs cells slots Q (F0 m (pc + 1) ls (.int (f i.toNatClampNeg) :: rest))) : W p l e R s m args below meth c H locs cells slots Q (F0 m pc ls (.int i :: .ref a :: rest)) := va_iald hexec hb z.1 z.2.1 q0 t0 ha ht hin hdg kk
theorem z_cald (hexec : p.tables.exec = Jvm.exec) (hb : c.code = cc) (z : zw D ws tys A H0 s H locs) (q0 t0 : Nat) {cA : ClassId} {n : Nat} {f : Nat → Int32} (ha : ws[q0]? = some (a, .inl (cA, n, .inl f))) (ht : tys[t0]? = some (cA, .char)) {i : Int32} (hin : vp_in i n) (hdg : decode cc pc = .ok (.caload, 1))
    (kk : W p l e R s m args below meth c H locs cells slots Q (F0 m (pc + 1) ls (.int (f i.toNatClampNeg) :: rest))) : W p l e R s m args below meth c H locs cells slots Q (F0 m pc ls (.int i :: .ref a :: rest)) := va_cald hexec hb z.1 z.2.1 q0 t0 ha ht hin hdg kk
theorem z_bald (hexec : p.tables.exec = Jvm.exec) (hb : c.code = cc) (z : zw D ws tys A H0 s H locs) (q0 t0 : Nat) {cA : ClassId} {n : Nat} {f : Nat → Int32} (ha : ws[q0]? = some (a, .inl (cA, n, .inl f))) (ht : tys[t0]? = some (cA, .byte)) {i : Int32} (hin : vp_in i n) (hdg : decode cc pc = .ok (.baload, 1))
    (kk : W p l e R s m args below meth c H locs cells slots Q (F0 m (pc + 1) ls (.int (f i.toNatClampNeg) :: rest))) : W p l e R s m args below meth c H locs cells slots Q (F0 m pc ls (.int i :: .ref a :: rest)) := va_bald hexec hb z.1 z.2.1 q0 t0 ha ht hin hdg kk
theorem z_alen (hexec : p.tables.exec = Jvm.exec) (hb : c.code = cc) (z : zw D ws tys A H0 s H locs) (q0 t0 : Nat) {cA : ClassId} {x : vp_A} (ha : ws[q0]? = some (a, .inl (cA, x))) {ty : FieldType} (ht : tys[t0]? = some (cA, ty)) {v : Int32} (hv : Int32.ofNat x.1 = v) (hdg : decode cc pc = .ok (.arraylength, 1))
    (kk : W p l e R s m args below meth c H locs cells slots Q (F0 m (pc + 1) ls (.int v :: rest))) : W p l e R s m args below meth c H locs cells slots Q (F0 m pc ls (.ref a :: rest)) := va_alen hexec hb z.1 z.2.1 q0 t0 ha ht hv hdg kk
theorem z_iast (hexec : p.tables.exec = Jvm.exec) (hb : c.code = cc) (z : zw D ws tys A H0 s H locs) (q0 t0 : Nat) {cA : ClassId} {n : Nat} {f : Nat → Int32} (ha : ws[q0]? = some (a, .inl (cA, n, .inl f))) (ht : tys[t0]? = some (cA, .int)) {i : Int32} {x : Int32} (hin : vp_in i n) (hdg : decode cc pc = .ok (.iastore, 1))
    (kk : ∀ (g : Nat → Int32) (H1 : Heap) (locs1 : List Loc), g = upd f i.toNatClampNeg x → zw D (ws.set q0 (a, .inl (cA, n, .inl g))) tys A H0 s H1 locs1 → W p l e R s m args below meth c H1 locs1 cells slots Q (F0 m (pc + 1) ls rest)) : W p l e R s m args below meth c H locs cells slots Q (F0 m pc ls (.int x :: .int i :: .ref a :: rest)) :=
  va_iast hexec hb z.1 z.2.1 z.2.2.1 z.2.2.2.1 q0 t0 ha ht hin hdg (fun H1 locs1 hP hD hS => kk _ H1 locs1 rfl ⟨z.1, hP, hD, hS, z.2.2.2.2⟩)
theorem z_cast (hexec : p.tables.exec = Jvm.exec) (hb : c.code = cc) (z : zw D ws tys A H0 s H locs) (q0 t0 : Nat) {cA : ClassId} {n : Nat} {f : Nat → Int32} (ha : ws[q0]? = some (a, .inl (cA, n, .inl f))) (ht : tys[t0]? = some (cA, .char)) {i : Int32} {x : Int32} (hin : vp_in i n) (hdg : decode cc pc = .ok (.castore, 1))
    (kk : ∀ (g : Nat → Int32) (H1 : Heap) (locs1 : List Loc), zw D (ws.set q0 (a, .inl (cA, n, .inl g))) tys A H0 s H1 locs1 → W p l e R s m args below meth c H1 locs1 cells slots Q (F0 m (pc + 1) ls rest)) : W p l e R s m args below meth c H locs cells slots Q (F0 m pc ls (.int x :: .int i :: .ref a :: rest)) :=
  va_cast hexec hb z.1 z.2.1 z.2.2.1 z.2.2.2.1 q0 t0 ha ht hin hdg (fun H1 locs1 hP hD hS => kk _ H1 locs1 ⟨z.1, hP, hD, hS, z.2.2.2.2⟩)
theorem z_bast (hexec : p.tables.exec = Jvm.exec) (hb : c.code = cc) (z : zw D ws tys A H0 s H locs) (q0 t0 : Nat) {cA : ClassId} {n : Nat} {f : Nat → Int32} (ha : ws[q0]? = some (a, .inl (cA, n, .inl f))) (ht : tys[t0]? = some (cA, .byte)) {i : Int32} {x : Int32} (hin : vp_in i n) (hdg : decode cc pc = .ok (.bastore, 1))
    (kk : ∀ (g : Nat → Int32) (H1 : Heap) (locs1 : List Loc), zw D (ws.set q0 (a, .inl (cA, n, .inl g))) tys A H0 s H1 locs1 → W p l e R s m args below meth c H1 locs1 cells slots Q (F0 m (pc + 1) ls rest)) : W p l e R s m args below meth c H locs cells slots Q (F0 m pc ls (.int x :: .int i :: .ref a :: rest)) :=
  va_bast hexec hb z.1 z.2.1 z.2.2.1 z.2.2.2.1 q0 t0 ha ht hin hdg (fun H1 locs1 hP hD hS => kk _ H1 locs1 ⟨z.1, hP, hD, hS, z.2.2.2.2⟩)
theorem z_last (hexec : p.tables.exec = Jvm.exec) (hb : c.code = cc) (z : zw D ws tys A H0 s H locs) (q0 t0 : Nat) {cA : ClassId} {n : Nat} {f : Nat → Int64} (ha : ws[q0]? = some (a, .inl (cA, n, .inr (.inl f)))) (ht : tys[t0]? = some (cA, .long)) {i : Int32} {x : Int64} (hin : vp_in i n) (hdg : decode cc pc = .ok (.lastore, 1))
    (kk : ∀ (g : Nat → Int64) (H1 : Heap) (locs1 : List Loc), g = vp_updL f i.toNatClampNeg x → zw D (ws.set q0 (a, .inl (cA, n, .inr (.inl g)))) tys A H0 s H1 locs1 → W p l e R s m args below meth c H1 locs1 cells slots Q (F0 m (pc + 1) ls rest)) : W p l e R s m args below meth c H locs cells slots Q (F0 m pc ls (.long x :: .int i :: .ref a :: rest)) :=
  va_last hexec hb z.1 z.2.1 z.2.2.1 z.2.2.2.1 q0 t0 ha ht hin hdg (fun H1 locs1 hP hD hS => kk _ H1 locs1 rfl ⟨z.1, hP, hD, hS, z.2.2.2.2⟩)
theorem z_newq (hexec : p.tables.exec = Jvm.exec) (hb : c.code = cc) {own C : String} {index : Nat} (hts : ∀ w ∈ Ts, w.before args s = true) (hown : s.vm.findClass own = some m.cls) (hclink : Cond.classLink own index C ∈ Ts) (hover : va_AO C s) (z : zw D ws tys A H0 s H locs)
    {n : Int32} (hn : ¬ n < 0) {N' : Nat} (hN : n.toNatClampNeg = N') (hbytes : N' * 4 ≤ 536870912) {cells' slots' : Nat} (hcells : cells + 1 ≤ R.cells) (hslots : slots + N' ≤ R.slots) (hc' : cells + 1 = cells') (hs' : slots + N' = slots') (hdg : decode cc pc = .ok (.anewarray index, 3))
    (kk : ∀ (q : Nat) (cA : ClassId) (H1 : Heap), zw D (ws ++ [(q, .inl (cA, N', .inr (.inr (.inr (.inr (fun _ => none))))))]) (tys ++ [(cA, .object C)]) A H0 s H1 locs → W p l e R s m args below meth c H1 locs cells' slots' Q (F0 m (pc + 3) ls (.ref q :: rest))) : W p l e R s m args below meth c H locs cells slots Q (F0 m pc ls (.int n :: rest)) := by
  subst hc' hs'
  exact va_newq hexec hb hown (hts _ hclink) hover z.1 z.2.1 z.2.2.1 z.2.2.2.1 z.2.2.2.2.1 hn hN hbytes hcells hslots hdg (fun q cA H1 hK hP hD hS => kk q cA H1 ⟨hK, hP, hD, hS, z.2.2.2.2⟩)
theorem z_astq (hexec : p.tables.exec = Jvm.exec) (hb : c.code = cc) (z : zw D ws tys A H0 s H locs) (q0 t0 qk : Nat) {ci : Nat} {cA : ClassId} {r : vw_C} {n v : Nat} {vs : List Value} {f : Nat → Option Nat} (ha : ws[q0]? = some (a, .inl (cA, n, .inr (.inr (.inr (.inr f)))))) (ht : tys[t0]? = some (cA, .object r.1)) (hv : ws[qk]? = some (v, .inr (ci, vs))) (hc : vwCl[ci]? = some r) {i : Int32} (hin : vp_in i n) (hdg : decode cc pc = .ok (.aastore, 1))
    (kk : ∀ (g : Nat → Option Nat) (H1 : Heap) (locs1 : List Loc), zw D (ws.set q0 (a, .inl (cA, n, .inr (.inr (.inr (.inr g)))))) tys A H0 s H1 locs1 → W p l e R s m args below meth c H1 locs1 cells slots Q (F0 m (pc + 1) ls rest)) : W p l e R s m args below meth c H locs cells slots Q (F0 m pc ls (.ref v :: .int i :: .ref a :: rest)) :=
  va_astq hexec hb z.1 z.2.1 z.2.2.1 z.2.2.2.1 q0 t0 qk ci ha ht hv hc hin hdg (fun H1 locs1 hP hD hS => kk _ H1 locs1 ⟨z.1, hP, hD, hS, z.2.2.2.2⟩)
/-- throw new E("text") -/
theorem z_throw (hexec : p.tables.exec = Jvm.exec) (hb : c.code = cc) (hl : l.stackTraces = false) {own cls text : String} {ik is ic : Nat} {PX : String → Prop} {Qc : Array Value → State → Outcome → State → Prop}
    (hts : ∀ w ∈ Ts, w.before args s = true) (hown : s.vm.findClass own = some m.cls) (hlocks : meth.locks = false) (hml : c.maxLocals = ls.size) (hout : ∀ x ∈ c.exceptionTable.toList, False) (hcls : Bundle.fit cls = true)
    (hk : Cond.classLink own ik cls ∈ Ts) (hini : Cond.initialized cls ∈ Ts) (hatg : ∀ w ∈ (vx_atS own ic cls ["java/lang/RuntimeException", "java/lang/Exception"]).filter goodWord, w ∈ Ts) (hng : ∀ w ∈ (vx_atS own ic cls ["java/lang/RuntimeException", "java/lang/Exception"]).filter (fun w => !goodWord w), w ∈ [Cond.castable cls cls]) (hex : cls ∈ zExcs)
    (hgood : ∀ w ∈ Cond.classLink own ik cls :: Cond.initialized cls :: vx_atS own ic cls ["java/lang/RuntimeException", "java/lang/Exception"], vx_ot w = true) (hstr : (own, is, text) ∈ zStrs) (z : zw D ws tys A s.heap s H locs)
    (d0 : decode cc pc = .ok (.new ik, 3)) (d3 : decode cc (pc + 3) = .ok (.dup, 1)) (d4 : decode cc (pc + 4) = .ok (.ldc is, 2)) (d6 : decode cc (pc + 6) = .ok (.invokespecial ic, 3)) (d9 : decode cc (pc + 9) = .ok (.athrow, 1))
    (hRf : 5 < R.frames) (hRl : (rest.map fun v => v.category).sum + 82 ≤ R.locals) (hRc : cells + 1 ≤ R.cells) (hRs : slots + 6 ≤ R.slots) (hPX : PX cls) (hc : cells + 1 ≤ mc) (hs : slots + 6 ≤ ms) :
    W p l e R s m args below meth c H locs cells slots (vx_MQ below Qc (zX PX A) args s mc ms A) (F0 m pc ls rest) := by
  obtain ⟨sa, hsa⟩ := z.2.2.2.2.2.1.1 _ hstr
  have hat : ∀ w ∈ vx_atS own ic cls ["java/lang/RuntimeException", "java/lang/Exception"], w.before args s = true := vx_hat (fun w h => hts w (hatg w h)) hng (vx_c (va_tabs (u := s) rfl rfl (z.2.2.2.2.2.1.2.1 _ hex)) vx_n)
  exact vx_throwS hexec hb hl hown hcls (by decide +kernel) (hts _ hk) (hts _ hini) hsa hat hgood z.2.2.2.2.2.2.1 z.2.2.2.2.2.2.2 z.2.2.2.1 hml.symm d0 d3 d4 d6 d9 (fun x hx => (hout x hx).elim) hRf hRl hRc hRs hlocks (fun t _ h1 h2 => ⟨(), trivial, hPX, ⟨Nat.le_trans z.2.2.2.1.1 h1, fun q hq hA => (h2 q (Nat.lt_of_lt_of_le hq z.2.2.2.1.1)).trans (z.2.2.2.1.2.1 q hq hA)⟩⟩) z.2.2.2.1.2.2 hc hs
theorem z_throwW (hexec : p.tables.exec = Jvm.exec) (hb : c.code = cc) (hl : l.stackTraces = false) {own cls text : String} {ik is ic : Nat} {PX : String → Prop} {Qc : Array Value → State → Outcome → State → Prop}
    (hts : ∀ w ∈ Ts, w.before args s = true) (hown : s.vm.findClass own = some m.cls) (hlocks : meth.locks = false) (hml : c.maxLocals = ls.size) (hout : ∀ x ∈ c.exceptionTable.toList, False) (hcls : Bundle.fit cls = true)
    (hk : Cond.classLink own ik cls ∈ Ts) (hini : Cond.initialized cls ∈ Ts) (hatg : ∀ w ∈ (vx_atS own ic cls ["java/lang/RuntimeException", "java/lang/Exception"]).filter goodWord, w ∈ Ts) (hng : ∀ w ∈ (vx_atS own ic cls ["java/lang/RuntimeException", "java/lang/Exception"]).filter (fun w => !goodWord w), w ∈ [Cond.castable cls cls]) (hex : cls ∈ zExcs)
    (hgood : ∀ w ∈ Cond.classLink own ik cls :: Cond.initialized cls :: vx_atS own ic cls ["java/lang/RuntimeException", "java/lang/Exception"], vx_ot w = true) (hstr : (own, is, text) ∈ zStrs) (z : zw D ws tys A s.heap s H locs)
    (d0 : decode cc pc = .ok (.new ik, 3)) (d3 : decode cc (pc + 3) = .ok (.dup, 1)) (d4 : decode cc (pc + 4) = .ok (.ldc_w is, 3)) (d7 : decode cc (pc + 7) = .ok (.invokespecial ic, 3)) (d10 : decode cc (pc + 10) = .ok (.athrow, 1))
    (hRf : 5 < R.frames) (hRl : (rest.map fun v => v.category).sum + 82 ≤ R.locals) (hRc : cells + 1 ≤ R.cells) (hRs : slots + 6 ≤ R.slots) (hPX : PX cls) (hc : cells + 1 ≤ mc) (hs : slots + 6 ≤ ms) :
    W p l e R s m args below meth c H locs cells slots (vx_MQ below Qc (zX PX A) args s mc ms A) (F0 m pc ls rest) := by
  obtain ⟨sa, hsa⟩ := z.2.2.2.2.2.1.1 _ hstr
  have hat : ∀ w ∈ vx_atS own ic cls ["java/lang/RuntimeException", "java/lang/Exception"], w.before args s = true := vx_hat (fun w h => hts w (hatg w h)) hng (vx_c (va_tabs (u := s) rfl rfl (z.2.2.2.2.2.1.2.1 _ hex)) vx_n)
  exact vx_throwSW hexec hb hl hown hcls (by decide +kernel) (hts _ hk) (hts _ hini) hsa hat hgood z.2.2.2.2.2.2.1 z.2.2.2.2.2.2.2 z.2.2.2.1 hml.symm d0 d3 d4 d7 d10 (fun x hx => (hout x hx).elim) hRf hRl hRc hRs hlocks (fun t _ h1 h2 => ⟨(), trivial, hPX, ⟨Nat.le_trans z.2.2.2.1.1 h1, fun q hq hA => (h2 q (Nat.lt_of_lt_of_le hq z.2.2.2.1.1)).trans (z.2.2.2.1.2.1 q hq hA)⟩⟩) z.2.2.2.1.2.2 hc hs
end ZF
-- a throw that this method's own table takes, behind rows that name other classes
section ZC
variable {p : Program} {l : Launch} {e : Env} {R : Room} {s : State} {m : MethodId} {args : Array Value} {below : List Frame} {meth : Method} {c : Code} {H : Heap} {locs : List Loc} {cells slots : Nat} {Q : State → Prop}
/-- one row of the table that covers the place: it takes what is thrown, or it passes it on; its class is linked then -/
theorem zx_row {f : JFrame} {a : Addr} {S : State} {x : ExceptionTableEntry} {t : List ExceptionTableEntry} {k : ClassId} {cell : Cell} (b : Bool) (hx : covers x f.pc = true) (h0 : x.catchType ≠ 0)
    (hl : S.vm.ClassLinks e.platform f.method.cls x.catchType k) (hcell : S.heap[a]? = some cell) (hobj : ∀ q, cell.vm ≠ .statics q) (hk : ∃ q, S.vm.classes[cell.cls]? = some q) (hc : ∃ q, S.vm.classes[k]? = some q) (hfit : S.vm.assignable cell.cls k = b)
    (G : Handler → Pre) (E : CtlPost) (d : Bool) (acts : List Action) :
    wp (findHandler.go f a (x :: t)) G E e d acts S ↔ (bif b then G (.found x.handlerPc) d acts (S.setVm (S.vm.noted f.method.cls x.catchType (.cls k))) else wp (findHandler.go f a t) G E e d acts (S.setVm (S.vm.noted f.method.cls x.catchType (.cls k)))) := by
  simp only [covers] at hx
  obtain ⟨q1, q2⟩ := (resolveClass_links e.toSetting hl).op (op := VmOp.resolveClass f.method.cls x.catchType) rfl
  have hal : S.vm.Alike (S.vm.noted f.method.cls x.catchType (.cls k)) := (Vm.Alike.refl S.vm).noted _ _ _
  obtain ⟨k1, hk1⟩ := hk
  obtain ⟨k2, hk2⟩ := hc
  obtain ⟨k1', hk1', -⟩ := hal.2.2 _ _ hk1
  obtain ⟨k2', hk2', -⟩ := hal.2.2 _ _ hk2
  have hf : (S.vm.noted f.method.cls x.catchType (.cls k)).assignable cell.cls k = b := by rw [hal.assignable]; exact hfit
  cases b <;> simp [findHandler.go, hx, h0, q1, q2, hcell, hobj, hk1', hk2', hf, VmOp.dirties, VmOp.acts]
/-- what the search in the table t comes to: the handler at h, in every state that has s's tables -/
def zx_finds (e : Env) (s : State) (f : JFrame) (a : Addr) (cell : Cell) (t : List ExceptionTableEntry) (h : Nat) : Prop :=
  ∀ S : State, s.WarmedH S.vm → S.heap[a]? = some cell → ∃ vm', s.WarmedH vm' ∧ ∀ (G : Handler → Pre) (E : CtlPost) (d : Bool) (acts : List Action), wp (findHandler.go f a t) G E e d acts S ↔ G (.found h) d acts (S.setVm vm')
theorem zx_take {f : JFrame} {a : Addr} {x : ExceptionTableEntry} {t : List ExceptionTableEntry} {k : ClassId} {cell : Cell} (hx : covers x f.pc = true) (h0 : x.catchType ≠ 0) (hl : s.vm.ClassLinks e.platform f.method.cls x.catchType k) (hobj : ∀ q, cell.vm ≠ .statics q) (hk : ∃ q, s.vm.classes[cell.cls]? = some q) (hfit : s.vm.assignable cell.cls k = true) : zx_finds e s f a cell (x :: t) x.handlerPc := by
  intro S hW hcell
  obtain ⟨dk, _, _, kt, hd, _, _, _, _, hkt, _, ho⟩ := hl.here
  obtain ⟨k0, hk0⟩ := hk
  obtain ⟨k0', hk0', -⟩ := hW.alike.2.2 _ _ hk0
  obtain ⟨kt', hkt', -⟩ := hW.alike.2.2 _ _ hkt
  exact ⟨_, hW.noted hd ho (State.rightAt_cls hl), fun G E d acts => zx_row true hx h0 (hW.classLinks hl) hcell hobj ⟨k0', hk0'⟩ ⟨kt', hkt'⟩ (by rw [hW.alike.assignable]; exact hfit) G E d acts⟩
theorem zx_pass {f : JFrame} {a : Addr} {x : ExceptionTableEntry} {t : List ExceptionTableEntry} {k : ClassId} {cell : Cell} {h : Nat} (hx : covers x f.pc = true) (h0 : x.catchType ≠ 0) (hl : s.vm.ClassLinks e.platform f.method.cls x.catchType k) (hobj : ∀ q, cell.vm ≠ .statics q) (hk : ∃ q, s.vm.classes[cell.cls]? = some q) (hfit : s.vm.assignable cell.cls k = false) (hr : zx_finds e s f a cell t h) : zx_finds e s f a cell (x :: t) h := by
  intro S hW hcell
  obtain ⟨dk, _, _, kt, hd, _, _, _, _, hkt, _, ho⟩ := hl.here
  obtain ⟨k0, hk0⟩ := hk
  obtain ⟨k0', hk0', -⟩ := hW.alike.2.2 _ _ hk0
  obtain ⟨kt', hkt', -⟩ := hW.alike.2.2 _ _ hkt
  obtain ⟨vm', hW', hq⟩ := hr (S.setVm (S.vm.noted f.method.cls x.catchType (.cls k))) (hW.noted hd ho (State.rightAt_cls hl)) hcell
  exact ⟨vm', hW', fun G E d acts => (zx_row false hx h0 (hW.classLinks hl) hcell hobj ⟨k0', hk0'⟩ ⟨kt', hkt'⟩ (by rw [hW.alike.assignable]; exact hfit) G E d acts).trans (hq G E d acts)⟩
theorem zx_steps {T : State} {g : JFrame} {a : Addr} {cell : Cell} (X : Stand p l e R s m args below meth c T locs cells slots) (hg : g.method = m) (hcell : T.heap[a]? = some cell) {h : Nat} (hf : zx_finds e s g a cell c.exceptionTable.toList h) :
    ∃ vm', Stand p l e R s m args below meth c (T.setVm vm') locs cells slots ∧ Steps p.tables e below ((T.setTop g).pushFrame (.throwing a)) ((T.setVm vm').setTop { g with pc := h, stack := [.ref a] }) := by
  subst hg
  obtain ⟨vm', hW', hq⟩ := hf ((T.setTop g).pushFrame (.throwing a)) X.warmed hcell
  refine ⟨vm', X.noted hW', ?_⟩
  obtain ⟨hgo, hw⟩ := X.here.throwing a
  refine Steps.head hgo hw ?_
  have hfind : ∀ (G : Handler → Pre) (E : CtlPost) (d : Bool) (acts : List Action), wp (findHandler g a) G E e d acts ((T.setTop g).pushFrame (.throwing a)) ↔ G (.found h) d acts (((T.setTop g).pushFrame (.throwing a)).setVm vm') := fun G E d acts => by
    rw [Jvm.W.findHandler_eq (s := (T.setTop g).pushFrame (.throwing a)) (meth := meth) (code := c) X.method' X.code]
    exact hq G E d acts
  have hstep : (stepThrowing e ((T.setTop g).pushFrame (.throwing a)) a (.java g :: T.frames.tail)).1 = (((T.setTop g).pushFrame (.throwing a)).setVm vm').setFrames (.java { g with pc := h, stack := [.ref a] } :: T.frames.tail) := by
    simp only [stepThrowing, searchFrame, vmDo]
    generalize hr : Sem.go _ e false [] _ = res
    obtain ⟨as, rfl, -⟩ := Sem.eq_ok_of hr (a := Handler.found h) (s' := ((T.setTop g).pushFrame (.throwing a)).setVm vm') (acts' := []) (by simp [hfind _ _ _ _])
    rfl
  rw [stepThread_throwing (frames_entered X.here.top _), hstep]
  obtain ⟨g₀, hg0⟩ := Option.isSome_iff_exists.mp X.here.top
  obtain ⟨r, hr⟩ := State.topJava?_eq_some.mp hg0
  have hr' : (T.setVm vm').frames = .java g₀ :: r := hr
  have e1 : (((T.setTop g).pushFrame (.throwing a)).setVm vm').setFrames (.java { g with pc := h, stack := [.ref a] } :: T.frames.tail) = (T.setVm vm').setTop { g with pc := h, stack := [.ref a] } := by
    rw [State.setTop_of_frames _ hr', hr, State.pushFrame, State.setTop_of_frames _ hr]
    show (((T.setVm vm').setFrames _).setFrames _).setFrames _ = _
    rw [State.setFrames_setFrames, State.setFrames_setFrames]
    rfl
  rw [e1]
  exact Steps.refl _
theorem z_catch {pc : Nat} {ls : Array Slot} {rest : List Value} {own E name : String} {ce : Cell} {q : Addr} (hown : s.vm.findClass own = some m.cls) {t : List ExceptionTableEntry} {x : ExceptionTableEntry} (pre : List (ExceptionTableEntry × String)) (ht : c.exceptionTable.toList = pre.map (·.1) ++ x :: t)
    (hpre : ∀ y ∈ pre, covers y.1 pc = true ∧ y.1.catchType ≠ 0 ∧ (Cond.classLink own y.1.catchType y.2).before args s = true ∧ va_Nc E y.2 s) (hx : covers x pc = true) (h0 : x.catchType ≠ 0)
    (hlink : (Cond.classLink own x.catchType name).before args s = true) (hcast : (Cond.castable E name).before args s = true) (hcell : H[q]? = some ce) (hv : ce.vm = .none) (hcl : s.vm.findClass E = some ce.cls)
    (kk : W p l e R s m args below meth c H locs cells slots Q (F0 m x.handlerPc ls [.ref q])) : vx_W p l e R s m args below meth c H locs cells slots Q (F0 m pc ls rest) q := by
  intro T hT X
  have hpl : e.platform.magicAccessors = ({} : Platform).magicAccessors := by rw [X.admits.platform]
  have hobj : ∀ z, ce.vm ≠ .statics z := fun z h => by rw [hv] at h; cases h
  obtain ⟨k9, h9, -⟩ := Vm.findClass_spec hcl
  obtain ⟨c3, c4, hc3, hc4, hasg⟩ := Cond.castable_spec hcast
  cases Option.some.inj (hc3.symm.trans hcl)
  obtain ⟨c5, hc5, hl5⟩ := Cond.classLink_spec hown hlink e.platform hpl
  cases Option.some.inj (hc4.symm.trans hc5)
  have key : ∀ pr : List (ExceptionTableEntry × String), (∀ y ∈ pr, covers y.1 pc = true ∧ y.1.catchType ≠ 0 ∧ (Cond.classLink own y.1.catchType y.2).before args s = true ∧ va_Nc E y.2 s) → zx_finds e s (F0 m pc ls rest) q ce (pr.map (·.1) ++ x :: t) x.handlerPc := by
    intro pr
    induction pr with
    | nil => intro _; exact zx_take hx h0 hl5 hobj ⟨k9, h9⟩ hasg
    | cons y ys ih =>
      intro h
      obtain ⟨y1, y2, y3, y4⟩ := h y List.mem_cons_self
      obtain ⟨c6, hc6, hl6⟩ := Cond.classLink_spec hown y3 e.platform hpl
      obtain ⟨a8, b8, n1, n2, n3⟩ := y4
      cases Option.some.inj (n1.symm.trans hcl)
      cases Option.some.inj (n2.symm.trans hc6)
      exact zx_pass y1 y2 hl6 hobj ⟨k9, h9⟩ n3 (ih (fun z hz => h z (List.mem_cons_of_mem _ hz)))
  obtain ⟨vm', X', st⟩ := zx_steps X (g := F0 m pc ls rest) rfl (by rw [hT]; exact hcell) (by rw [ht]; exact key pre hpre)
  obtain ⟨t9, a1, b1⟩ := kk (T.setVm vm') hT X'
  exact ⟨t9, st.trans a1, b1⟩
end ZC
section ZL
variable {p : Program} {l : Launch} {e : Env} {R : Room} {s : State} {m : MethodId} {args : Array Value} {below : List Frame} {meth : Method} {c : Code} {cells slots : Nat} {Q : State → Prop} {pc : Nat} {st : List Value}
/-- a loop: what holds at its head, a number that falls -/
theorem z_loop {α : Type} (I : α → Heap → List Loc → Array Slot → Prop) (μ : α → Nat) (a : α) {H : Heap} {locs : List Loc} {ls : Array Slot} (h0 : I a H locs ls)
    (hs : ∀ (a : α) (H : Heap) (locs : List Loc) (ls : Array Slot), I a H locs ls → (∀ (b : α) (H : Heap) (locs : List Loc) (ls : Array Slot), I b H locs ls → μ b < μ a → W p l e R s m args below meth c H locs cells slots Q (F0 m pc ls st)) → W p l e R s m args below meth c H locs cells slots Q (F0 m pc ls st)) :
    W p l e R s m args below meth c H locs cells slots Q (F0 m pc ls st) := by
  have key : ∀ (n : Nat) (a : α) (H : Heap) (locs : List Loc) (ls : Array Slot), μ a < n → I a H locs ls → W p l e R s m args below meth c H locs cells slots Q (F0 m pc ls st) := by
    intro n
    induction n with
    | zero => intro a H locs ls hn _; exact absurd hn (Nat.not_lt_zero _)
    | succ n ih => intro a H locs ls hn h; exact hs a H locs ls h (fun b H locs ls hb hlt => ih b H locs ls (by omega) hb)
  exact key _ a H locs ls (Nat.lt_succ_self _) h0
end ZL
-- numbers
theorem z_nI_lt {j k : Nat} (h : j < k) (hk : k < 2 ^ 31) : nI j < nI k := nI_lt h hk
theorem z_le_lt {x a b : Int32} (h1 : ¬ a < x) (h2 : a < b) : x < b := by
  rw [Int32.lt_iff_toInt_lt] at *; omega
theorem z_lt_le {x a b : Int32} (h1 : x < a) (h2 : ¬ b < a) : x < b := by
  rw [Int32.lt_iff_toInt_lt] at *; omega
theorem z_lt_ge {x a b : Int32} (h1 : ¬ x < b) (h2 : a < b) : a < x := by
  rw [Int32.lt_iff_toInt_lt] at *; omega
-- what the calls' arguments are
def zs (x : Int32) : Prop := x = 0 ∨ x = 1
def zg (a b d : Int32) : Prop := ¬ a < 0 ∧ ¬ 2 < a ∧ ¬ b < 1 ∧ ¬ 20 < b ∧ ¬ d < 0 ∧ ¬ 60 < d
def zf (k a b d : Int32) : Prop := ¬ k < 2 ∧ ¬ 10 < k ∧ zg a b d
def zn (n : Int32) : Prop := ¬ n < 0 ∧ ¬ 0 < n
def zq (w : Int32) : Prop := w = 0 ∨ w = 1 ∨ w = 2 ∨ w = 3 ∨ w = 4 ∨ w = 5 ∨ w = 7 ∨ w = 8 ∨ w = 9
theorem z_nlt_nI (k j : Nat) (hk : k < 2 ^ 31) (hj : j < 2 ^ 31) (h : ¬ nI k < nI j) : j ≤ k := by
  rcases Nat.lt_or_ge k j with q | q
  · exact absurd (nI_lt q hj) h
  · exact q
theorem z_lt_nI (k j : Nat) (hk : k < 2 ^ 31) (hj : j < 2 ^ 31) (h : nI k < nI j) : k < j := (nI_ltI hk hj).mp h
-- the primes up to 200
def zP : List Nat := [2, 3, 5, 7, 11, 13, 17, 19, 23, 29, 31, 37, 41, 43, 47, 53, 59, 61, 67, 71, 73, 79, 83, 89, 97, 101, 103, 107, 109, 113, 127, 131, 137, 139, 149, 151, 157, 163, 167, 173, 179, 181, 191, 193, 197, 199]
/-- how many of them are below p -/
def zc (p : Nat) : Nat := (zP.filter (fun q => decide (q < p))).length
/-- none of the first k divides p -/
def zd (p k : Nat) : Bool := (zP.take k).all (fun q => decide (p % q ≠ 0))
theorem zF : ∀ j, j < 199 → zc (j + 2) ≤ 46 ∧ (zd (j + 2) (zc (j + 2)) = false → zc (j + 3) = zc (j + 2)) ∧ (zd (j + 2) (zc (j + 2)) = true → zc (j + 2) < 46 ∧ zc (j + 3) = zc (j + 2) + 1 ∧ zP.getD (zc (j + 2)) 0 = j + 2) := by decide +kernel
theorem zd_0 (p : Nat) : zd p 0 = true := rfl
theorem zc_2 : zc 2 = 0 := by decide +kernel
theorem zP_len : zP.length = 46 := by decide +kernel
theorem zP_in : ∀ k, k < 46 → 2 ≤ zP.getD k 0 ∧ zP.getD k 0 < 200 := by decide +kernel
theorem zd_s {p k : Nat} (hk : k < 46) : zd p (k + 1) = (zd p k && decide (p % zP.getD k 0 ≠ 0)) := by
  have h : k < zP.length := by rw [zP_len]; exact hk
  unfold zd
  rw [List.take_succ_eq_append_getElem h, List.all_append, List.getD_eq_getElem?_getD, List.getElem?_eq_getElem h]
  simp
/-- a truth as an int -/
def zb (b : Bool) : Int32 := bif b then 1 else 0
theorem zb_f {d : Bool} {b : Int32} (hb : b = zb d) (h : b = 0) : d = false := by
  cases d
  · rfl
  · rw [hb] at h; exact absurd h (by decide)
theorem zb_t {d : Bool} {b : Int32} (hb : b = zb d) (h : ¬ b = 0) : d = true := by
  cases d
  · exact absurd hb h
  · rfl
theorem zb_0 {d : Bool} {b : Int32} (hb : b = zb d) (h : b = 0) (x : Bool) : 0 = zb (d && x) := by
  rw [zb_f hb h]; rfl
theorem zr_0 {p q : Nat} {v w : Int32} (hp : p < 2 ^ 31) (h0 : 0 < q) (hq : q < 2 ^ 31) (hv : v = nI q) (hw : w = nI p - nI p / v * v) : w = nI (p % q) := by
  rw [hw, hv, pk_rem hp h0 hq]
theorem zb_y {d : Bool} {b w : Int32} {p q : Nat} (hp : p < 2 ^ 31) (hb : b = zb d) (h : ¬ b = 0) (hw : w = nI (p % q)) (h2 : w = 0) : 0 = zb (d && decide (p % q ≠ 0)) := by
  have e : p % q = 0 := by
    rcases Nat.eq_zero_or_pos (p % q) with z | z
    · exact z
    · exact absurd (hw ▸ h2) (nI_ne0 z (Nat.lt_of_le_of_lt (Nat.mod_le p q) hp))
  rw [e]
  cases d <;> rfl
theorem zb_n {d : Bool} {b w : Int32} {p q : Nat} (hb : b = zb d) (h : ¬ b = 0) (hw : w = nI (p % q)) (h2 : ¬ w = 0) : 1 = zb (d && decide (p % q ≠ 0)) := by
  have e : p % q ≠ 0 := fun z => h2 (by rw [hw, z]; rfl)
  rw [zb_t hb h, decide_eq_true e]
  rfl
theorem zP_up {f g : Nat → Int32} {n : Nat} {x : Int32} (hn : n < 2 ^ 31) (hg : g = upd f (nI n).toNatClampNeg x) (hf : ∀ i, i < n → f i = nI (zP.getD i 0)) (hx : x = nI (zP.getD n 0)) : ∀ i, i < n + 1 → g i = nI (zP.getD i 0) := by
  intro i hi
  rw [hg, nI_clamp hn]
  by_cases h : i = n
  · rw [h, pk_us]; exact hx
  · rw [pk_un h]; exact hf i (by omega)
end
section
set_option maxHeartbeats 4000000 in
set_option maxRecDepth 100000 in
/-- Bytes(4000) -/
theorem c_X0_init_4000 (l : Launch) (D : va_G) (sz : Nat) (h0 : Nat) : Met l yX0_init wsX0_init ({ frames := 1, cells := 1, slots := 4000, locals := 21 }) (va_Pc [.ref h0, .int 4000] (zI D [(h0, .inr (0, [.null, .int 0, .int 0]))] [] sz)) (va_Qv (fun (_ : Unit) => True) (fun _ t => ∃ q : Nat, ∃ cA : ClassId, zB D (va_A [(h0, .inr (0, [.null, .int 0, .int 0]))] sz) [(h0, .inr (0, [.ref q, .int 0, .int 0])), (q, .inl (cA, 4000, .inl (fun _ => 0)))] [(cA, .byte)] t) (va_A [(h0, .inr (0, [.null, .int 0, .int 0]))] sz)) 1 4000 (va_A [(h0, .inr (0, [.null, .int 0, .int 0]))] sz) := by
  refine Met.ofW (cc := cX0_init) (maxL := 2) (ret := none) (by decide) rfl ?_
  intro p e s m args below meth c s₁ B hml hv
  obtain ⟨rfl, hv⟩ := hv
  have hx := B.exec
  have hb := B.bytes
  have hr := B.returns
  have hts := atoms_spec (ws := wsX0_init) B.pre
  have hown : s.vm.findClass RX0 = some m.cls := findClass_of_methodNamed B.named
  have hlocks := B.notSynchronized
  have hiX0 : ∀ w ∈ u_ws RX0 TX0 3, w ∈ wsX0_init := (fun _ h => List.mem_cons_of_mem _ (List.mem_append_right _ h))
  have hin : meth.name = "<init>" := (name_of_methodNamed B.named B.method).1
  obtain ⟨hsz, z⟩ := hv.start
  clear hv
  subst hsz
  generalize va_A [(h0, .inr (0, [.null, .int 0, .int 0]))] s.heap.size = A at z ⊢
  have hl := lv_entry ([.ref h0, .int 4000]) (n := 2) (Nat.le_of_ble_eq_true rfl)
  rw [lg_entry_eq]
  generalize (lg_sl ([.ref h0, .int 4000]) ++ List.replicate (2 - (lg_sl ([.ref h0, .int 4000])).length) Slot.unset).toArray = ls at hl ⊢
  have hl : lv_has ls 2 [(0, .ref h0), (1, .int 4000)] := hl
  refine z_begin z (fun H locs z => ?_)
  refine lv_aload_n hx hb dX0_init_0 rfl (lv_at hl 0 rfl) ?_
  refine W.objInit hx hb hown (hts (.methodLink RX0 3 objectInit) (by decide +kernel)) (hts (.instanceMethod objectInit) (by decide +kernel)) (hts (.code objectInit ⟨#[0xb1]⟩ 1 none) (by decide +kernel)) rfl (by rw [hml]; exact hl.1) rfl dX0_init_1 (Nat.le_of_ble_eq_true rfl) (Nat.le_of_ble_eq_true rfl) ?_
  refine W.eq (g2 := F0 m 4 ls []) rfl ?_
  refine lv_aload_n hx hb dX0_init_4 rfl (lv_at hl 0 rfl) ?_
  refine lv_iload_n hx hb dX0_init_5 rfl (lv_at hl 1 rfl) ?_
  refine lv_iconst (v := 0) hx hb dX0_init_6 (by decide) ?_
  refine va_mmax hx hb (hml.trans hl.1.symm) hown (hts (.methodLink RX0 9 Lib.Math.max.name) (by decide +kernel)) (hts (.static Lib.Math.max.name) (by decide +kernel)) (hts (.initialized "java/lang/Math") (by decide +kernel)) (hts (.code Lib.Math.max.name Lib.Math.max.code 2 (some .int)) (by decide +kernel)) (Nat.le_of_ble_eq_true rfl) (Nat.le_of_ble_eq_true rfl) (Nat.le_of_ble_eq_true rfl) (Nat.le_of_ble_eq_true rfl) dX0_init_7 ?_
  refine z_ti (y := 4000) (by decide) ?_
  refine z_newa (atype := .byte) (ty := .byte) (a0 := (4000, .inl (fun _ => 0))) hx hb hts (show Cond.arrayClass .byte ∈ wsX0_init by decide +kernel) rfl z (fun _ => rfl) (by decide) (by decide) (by decide) (cells' := 1) (slots' := 4000) (Nat.le_of_ble_eq_true rfl) (Nat.le_of_ble_eq_true rfl) rfl rfl dX0_init_10 (fun q_1 cA_2 H z => ?_)
  have z : zw D [(h0, .inr (0, [.null, .int 0, .int 0])), (q_1, .inl (cA_2, 4000, .inl (fun _ => 0)))] [(cA_2, .byte)] A s.heap s H locs := z
  refine z_putF (v := .ref q_1) (C := RX0) (T := TX0) (N := 3) hx hb hts hiX0 tyX0 tyX0_ok nmX0 hown hin z 0 rfl rfl 0 (by decide) (show Cond.fieldLink RX0 15 "GainTrees$Bytes" "data" "[B" ∈ wsX0_init by decide +kernel) rfl rfl rfl rfl rfl (Nat.le_of_ble_eq_true rfl) dX0_init_12 (fun H locs z => ?_)
  have z : zw D [(h0, .inr (0, [.ref q_1, .int 0, .int 0])), (q_1, .inl (cA_2, 4000, .inl (fun _ => 0)))] [(cA_2, .byte)] A s.heap s H locs := z
  exact z_vret hx hb hr hlocks z (fun t h => ⟨q_1, cA_2, h.sub [0, 1] [0] (by decide) rfl rfl⟩) (Nat.le_of_ble_eq_true rfl) (Nat.le_of_ble_eq_true rfl) dX0_init_15

set_option maxHeartbeats 4000000 in
set_option maxRecDepth 100000 in
/-- Bytes(6000) -/
theorem c_X0_init_6000 (l : Launch) (D : va_G) (sz : Nat) (h0 : Nat) : Met l yX0_init wsX0_init ({ frames := 1, cells := 1, slots := 6000, locals := 21 }) (va_Pc [.ref h0, .int 6000] (zI D [(h0, .inr (0, [.null, .int 0, .int 0]))] [] sz)) (va_Qv (fun (_ : Unit) => True) (fun _ t => ∃ q : Nat, ∃ cA : ClassId, zB D (va_A [(h0, .inr (0, [.null, .int 0, .int 0]))] sz) [(h0, .inr (0, [.ref q, .int 0, .int 0])), (q, .inl (cA, 6000, .inl (fun _ => 0)))] [(cA, .byte)] t) (va_A [(h0, .inr (0, [.null, .int 0, .int 0]))] sz)) 1 6000 (va_A [(h0, .inr (0, [.null, .int 0, .int 0]))] sz) := by
  refine Met.ofW (cc := cX0_init) (maxL := 2) (ret := none) (by decide) rfl ?_
  intro p e s m args below meth c s₁ B hml hv
  obtain ⟨rfl, hv⟩ := hv
  have hx := B.exec
  have hb := B.bytes
  have hr := B.returns
  have hts := atoms_spec (ws := wsX0_init) B.pre
  have hown : s.vm.findClass RX0 = some m.cls := findClass_of_methodNamed B.named
  have hlocks := B.notSynchronized
  have hiX0 : ∀ w ∈ u_ws RX0 TX0 3, w ∈ wsX0_init := (fun _ h => List.mem_cons_of_mem _ (List.mem_append_right _ h))
  have hin : meth.name = "<init>" := (name_of_methodNamed B.named B.method).1
  obtain ⟨hsz, z⟩ := hv.start
  clear hv
  subst hsz
  generalize va_A [(h0, .inr (0, [.null, .int 0, .int 0]))] s.heap.size = A at z ⊢
  have hl := lv_entry ([.ref h0, .int 6000]) (n := 2) (Nat.le_of_ble_eq_true rfl)
  rw [lg_entry_eq]
  generalize (lg_sl ([.ref h0, .int 6000]) ++ List.replicate (2 - (lg_sl ([.ref h0, .int 6000])).length) Slot.unset).toArray = ls at hl ⊢
  have hl : lv_has ls 2 [(0, .ref h0), (1, .int 6000)] := hl
  refine z_begin z (fun H locs z => ?_)
  refine lv_aload_n hx hb dX0_init_0 rfl (lv_at hl 0 rfl) ?_
  refine W.objInit hx hb hown (hts (.methodLink RX0 3 objectInit) (by decide +kernel)) (hts (.instanceMethod objectInit) (by decide +kernel)) (hts (.code objectInit ⟨#[0xb1]⟩ 1 none) (by decide +kernel)) rfl (by rw [hml]; exact hl.1) rfl dX0_init_1 (Nat.le_of_ble_eq_true rfl) (Nat.le_of_ble_eq_true rfl) ?_
  refine W.eq (g2 := F0 m 4 ls []) rfl ?_
  refine lv_aload_n hx hb dX0_init_4 rfl (lv_at hl 0 rfl) ?_
  refine lv_iload_n hx hb dX0_init_5 rfl (lv_at hl 1 rfl) ?_
  refine lv_iconst (v := 0) hx hb dX0_init_6 (by decide) ?_
  refine va_mmax hx hb (hml.trans hl.1.symm) hown (hts (.methodLink RX0 9 Lib.Math.max.name) (by decide +kernel)) (hts (.static Lib.Math.max.name) (by decide +kernel)) (hts (.initialized "java/lang/Math") (by decide +kernel)) (hts (.code Lib.Math.max.name Lib.Math.max.code 2 (some .int)) (by decide +kernel)) (Nat.le_of_ble_eq_true rfl) (Nat.le_of_ble_eq_true rfl) (Nat.le_of_ble_eq_true rfl) (Nat.le_of_ble_eq_true rfl) dX0_init_7 ?_
  refine z_ti (y := 6000) (by decide) ?_
  refine z_newa (atype := .byte) (ty := .byte) (a0 := (6000, .inl (fun _ => 0))) hx hb hts (show Cond.arrayClass .byte ∈ wsX0_init by decide +kernel) rfl z (fun _ => rfl) (by decide) (by decide) (by decide) (cells' := 1) (slots' := 6000) (Nat.le_of_ble_eq_true rfl) (Nat.le_of_ble_eq_true rfl) rfl rfl dX0_init_10 (fun q_1 cA_2 H z => ?_)
  have z : zw D [(h0, .inr (0, [.null, .int 0, .int 0])), (q_1, .inl (cA_2, 6000, .inl (fun _ => 0)))] [(cA_2, .byte)] A s.heap s H locs := z
  refine z_putF (v := .ref q_1) (C := RX0) (T := TX0) (N := 3) hx hb hts hiX0 tyX0 tyX0_ok nmX0 hown hin z 0 rfl rfl 0 (by decide) (show Cond.fieldLink RX0 15 "GainTrees$Bytes" "data" "[B" ∈ wsX0_init by decide +kernel) rfl rfl rfl rfl rfl (Nat.le_of_ble_eq_true rfl) dX0_init_12 (fun H locs z => ?_)
  have z : zw D [(h0, .inr (0, [.ref q_1, .int 0, .int 0])), (q_1, .inl (cA_2, 6000, .inl (fun _ => 0)))] [(cA_2, .byte)] A s.heap s H locs := z
  exact z_vret hx hb hr hlocks z (fun t h => ⟨q_1, cA_2, h.sub [0, 1] [0] (by decide) rfl rfl⟩) (Nat.le_of_ble_eq_true rfl) (Nat.le_of_ble_eq_true rfl) dX0_init_15

set_option maxHeartbeats 4000000 in
set_option maxRecDepth 100000 in
/-- Bytes.add, with room -/
theorem c_X0_add (l : Launch) (D : va_G) (sz : Nat) (h0 : Nat) (q : Nat) (j : Nat) (cA : ClassId) (f : Nat → Int32) (v : Int32) (hj : j < 4000) : Met l yX0_add wsX0_add ({ frames := 0, cells := 0, slots := 0, locals := 0 }) (va_Pc [.ref h0, .int v] (zI D [(h0, .inr (0, [.ref q, .int (nI j), .int (nI j)])), (q, .inl (cA, 4000, .inl f))] [(cA, .byte)] sz)) (va_Qv (fun (_ : Unit) => True) (fun _ t => ∃ g : Nat → Int32, zB D (va_A [(h0, .inr (0, [.ref q, .int (nI j), .int (nI j)])), (q, .inl (cA, 4000, .inl f))] sz) [(h0, .inr (0, [.ref q, .int (nI (j + 1)), .int (nI (j + 1))])), (q, .inl (cA, 4000, .inl g))] [] t) (va_A [(h0, .inr (0, [.ref q, .int (nI j), .int (nI j)])), (q, .inl (cA, 4000, .inl f))] sz)) 0 0 (va_A [(h0, .inr (0, [.ref q, .int (nI j), .int (nI j)])), (q, .inl (cA, 4000, .inl f))] sz) := by
  refine Met.ofW (cc := cX0_add) (maxL := 2) (ret := none) (by decide) rfl ?_
  intro p e s m args below meth c s₁ B hml hv
  obtain ⟨rfl, hv⟩ := hv
  have hx := B.exec
  have hb := B.bytes
  have hr := B.returns
  have hts := atoms_spec (ws := wsX0_add) B.pre
  have hown : s.vm.findClass RX0 = some m.cls := findClass_of_methodNamed B.named
  have hlocks := B.notSynchronized
  have hiX0 : ∀ w ∈ u_ws RX0 TX0 3, w ∈ wsX0_add := (fun _ h => List.mem_cons_of_mem _ (List.mem_append_right _ h))
  obtain ⟨hsz, z⟩ := hv.start
  clear hv
  subst hsz
  generalize va_A [(h0, .inr (0, [.ref q, .int (nI j), .int (nI j)])), (q, .inl (cA, 4000, .inl f))] s.heap.size = A at z ⊢
  have hl := lv_entry ([.ref h0, .int v]) (n := 2) (Nat.le_of_ble_eq_true rfl)
  rw [lg_entry_eq]
  generalize (lg_sl ([.ref h0, .int v]) ++ List.replicate (2 - (lg_sl ([.ref h0, .int v])).length) Slot.unset).toArray = ls at hl ⊢
  have hl : lv_has ls 2 [(0, .ref h0), (1, .int v)] := hl
  refine z_begin z (fun H locs z => ?_)
  have hjI : nI j < 4000 := z_nI_lt hj (by decide)
  refine lv_aload_n hx hb dX0_add_0 rfl (lv_at hl 0 rfl) ?_
  refine z_get (v := .int (nI j)) (C := RX0) (T := TX0) (N := 3) hx hb hts hiX0 hown z 0 rfl rfl 1 (by decide) (show Cond.fieldLink RX0 21 "GainTrees$Bytes" "kept" "I" ∈ wsX0_add by decide +kernel) rfl rfl dX0_add_1 ?_
  refine lv_aload_n hx hb dX0_add_4 rfl (lv_at hl 0 rfl) ?_
  refine z_get (v := .ref q) (C := RX0) (T := TX0) (N := 3) hx hb hts hiX0 hown z 0 rfl rfl 0 (by decide) (show Cond.fieldLink RX0 15 "GainTrees$Bytes" "data" "[B" ∈ wsX0_add by decide +kernel) rfl rfl dX0_add_5 ?_
  refine z_alen (v := 4000) hx hb z 1 0 rfl rfl rfl dX0_add_8 ?_
  refine lv_icmp_ge (tgt := 33) hx hb dX0_add_9 (by decide) (fun c_1 => absurd hjI (Int32.not_lt.mpr c_1)) (fun c_1 => ?_)
  refine lv_aload_n hx hb dX0_add_12 rfl (lv_at hl 0 rfl) ?_
  refine z_get (v := .ref q) (C := RX0) (T := TX0) (N := 3) hx hb hts hiX0 hown z 0 rfl rfl 0 (by decide) (show Cond.fieldLink RX0 15 "GainTrees$Bytes" "data" "[B" ∈ wsX0_add by decide +kernel) rfl rfl dX0_add_13 ?_
  refine lv_aload_n hx hb dX0_add_16 rfl (lv_at hl 0 rfl) ?_
  refine z_get (v := .int (nI j)) (C := RX0) (T := TX0) (N := 3) hx hb hts hiX0 hown z 0 rfl rfl 1 (by decide) (show Cond.fieldLink RX0 21 "GainTrees$Bytes" "kept" "I" ∈ wsX0_add by decide +kernel) rfl rfl dX0_add_17 ?_
  refine lv_iload_n hx hb dX0_add_20 rfl (lv_at hl 1 rfl) ?_
  refine lv_i2b hx hb dX0_add_21 rfl ?_
  refine lv_topi (fun v_2 ev_2 => ?_)
  refine z_bast hx hb z 1 0 rfl rfl (vp_in_nI hj (by decide)) dX0_add_22 (fun g_3 H locs z => ?_)
  have z : zw D [(h0, .inr (0, [.ref q, .int (nI j), .int (nI j)])), (q, .inl (cA, 4000, .inl g_3))] [(cA, .byte)] A s.heap s H locs := z
  refine lv_aload_n hx hb dX0_add_23 rfl (lv_at hl 0 rfl) ?_
  refine lv_dup hx hb dX0_add_24 rfl ?_
  refine z_get (v := .int (nI j)) (C := RX0) (T := TX0) (N := 3) hx hb hts hiX0 hown z 0 rfl rfl 1 (by decide) (show Cond.fieldLink RX0 21 "GainTrees$Bytes" "kept" "I" ∈ wsX0_add by decide +kernel) rfl rfl dX0_add_25 ?_
  refine lv_iconst (v := 1) hx hb dX0_add_28 (by decide) ?_
  refine lv_iadd hx hb dX0_add_29 ?_
  refine z_ti (y := nI (j + 1)) (nI_1 j) ?_
  refine z_put (v := .int (nI (j + 1))) (C := RX0) (T := TX0) (N := 3) hx hb hts hiX0 tyX0 tyX0_ok nmX0 hown z 0 rfl rfl 1 (by decide) (show Cond.fieldLink RX0 21 "GainTrees$Bytes" "kept" "I" ∈ wsX0_add by decide +kernel) rfl rfl rfl rfl (Nat.le_of_ble_eq_true rfl) dX0_add_30 (fun H locs z => ?_)
  have z : zw D [(h0, .inr (0, [.ref q, .int (nI (j + 1)), .int (nI j)])), (q, .inl (cA, 4000, .inl g_3))] [(cA, .byte)] A s.heap s H locs := z
  refine lv_aload_n hx hb dX0_add_33 rfl (lv_at hl 0 rfl) ?_
  refine lv_dup hx hb dX0_add_34 rfl ?_
  refine z_get (v := .int (nI j)) (C := RX0) (T := TX0) (N := 3) hx hb hts hiX0 hown z 0 rfl rfl 2 (by decide) (show Cond.fieldLink RX0 25 "GainTrees$Bytes" "told" "I" ∈ wsX0_add by decide +kernel) rfl rfl dX0_add_35 ?_
  refine lv_iconst (v := 1) hx hb dX0_add_38 (by decide) ?_
  refine lv_iadd hx hb dX0_add_39 ?_
  refine z_ti (y := nI (j + 1)) (nI_1 j) ?_
  refine z_put (v := .int (nI (j + 1))) (C := RX0) (T := TX0) (N := 3) hx hb hts hiX0 tyX0 tyX0_ok nmX0 hown z 0 rfl rfl 2 (by decide) (show Cond.fieldLink RX0 25 "GainTrees$Bytes" "told" "I" ∈ wsX0_add by decide +kernel) rfl rfl rfl rfl (Nat.le_of_ble_eq_true rfl) dX0_add_40 (fun H locs z => ?_)
  have z : zw D [(h0, .inr (0, [.ref q, .int (nI (j + 1)), .int (nI (j + 1))])), (q, .inl (cA, 4000, .inl g_3))] [(cA, .byte)] A s.heap s H locs := z
  exact z_vret hx hb hr hlocks z (fun t h => ⟨g_3, h.sub [0, 1] [] (by decide) rfl rfl⟩) (Nat.le_of_ble_eq_true rfl) (Nat.le_of_ble_eq_true rfl) dX0_add_43

set_option maxHeartbeats 4000000 in
set_option maxRecDepth 100000 in
/-- Bytes.at, of none -/
theorem c_X0_at (l : Launch) (D : va_G) (sz : Nat) (h0 : Nat) (q : Nat) (i : Int32) : Met l yX0_at wsX0_at ({ frames := 0, cells := 0, slots := 0, locals := 0 }) (va_Pc [.ref h0, .int i] (zI D [(h0, .inr (0, [.ref q, .int 0, .int 0]))] [] sz)) (va_Qi (fun (r : Int32) (_ : Unit) => (-1) = r) (fun _ t => zB D (va_A [(h0, .inr (0, [.ref q, .int 0, .int 0]))] sz) [(h0, .inr (0, [.ref q, .int 0, .int 0]))] [] t) (va_A [(h0, .inr (0, [.ref q, .int 0, .int 0]))] sz)) 0 0 (va_A [(h0, .inr (0, [.ref q, .int 0, .int 0]))] sz) := by
  refine Met.ofW (cc := cX0_at) (maxL := 2) (ret := (some .int)) (by decide) rfl ?_
  intro p e s m args below meth c s₁ B hml hv
  obtain ⟨rfl, hv⟩ := hv
  have hx := B.exec
  have hb := B.bytes
  have hr := B.returns
  have hts := atoms_spec (ws := wsX0_at) B.pre
  have hown : s.vm.findClass RX0 = some m.cls := findClass_of_methodNamed B.named
  have hlocks := B.notSynchronized
  have hiX0 : ∀ w ∈ u_ws RX0 TX0 3, w ∈ wsX0_at := (fun _ h => List.mem_cons_of_mem _ (List.mem_append_right _ h))
  obtain ⟨hsz, z⟩ := hv.start
  clear hv
  subst hsz
  generalize va_A [(h0, .inr (0, [.ref q, .int 0, .int 0]))] s.heap.size = A at z ⊢
  have hl := lv_entry ([.ref h0, .int i]) (n := 2) (Nat.le_of_ble_eq_true rfl)
  rw [lg_entry_eq]
  generalize (lg_sl ([.ref h0, .int i]) ++ List.replicate (2 - (lg_sl ([.ref h0, .int i])).length) Slot.unset).toArray = ls at hl ⊢
  have hl : lv_has ls 2 [(0, .ref h0), (1, .int i)] := hl
  refine z_begin z (fun H locs z => ?_)
  refine lv_iload_n hx hb dX0_at_0 rfl (lv_at hl 1 rfl) ?_
  refine lv_if_lt (tgt := 25) hx hb dX0_at_1 (by decide) (fun c_1 => ?_) (fun c_1 => ?_)
  · skip
    refine lv_iconst (v := (-1)) hx hb dX0_at_25 (by decide) ?_
    exact z_iret hx hb hr hlocks z (rfl) (fun t h => h.sub [0] [] (by decide) rfl rfl) (Nat.le_of_ble_eq_true rfl) (Nat.le_of_ble_eq_true rfl) dX0_at_26
  · skip
    refine lv_iload_n hx hb dX0_at_4 rfl (lv_at hl 1 rfl) ?_
    refine lv_aload_n hx hb dX0_at_5 rfl (lv_at hl 0 rfl) ?_
    refine z_get (v := .int 0) (C := RX0) (T := TX0) (N := 3) hx hb hts hiX0 hown z 0 rfl rfl 1 (by decide) (show Cond.fieldLink RX0 21 "GainTrees$Bytes" "kept" "I" ∈ wsX0_at by decide +kernel) rfl rfl dX0_at_6 ?_
    refine lv_icmp_ge (tgt := 25) hx hb dX0_at_9 (by decide) (fun c_2 => ?_) (fun c_2 => absurd (Int32.not_le.mp c_2) c_1)
    refine lv_iconst (v := (-1)) hx hb dX0_at_25 (by decide) ?_
    exact z_iret hx hb hr hlocks z (rfl) (fun t h => h.sub [0] [] (by decide) rfl rfl) (Nat.le_of_ble_eq_true rfl) (Nat.le_of_ble_eq_true rfl) dX0_at_26

set_option maxHeartbeats 4000000 in
set_option maxRecDepth 100000 in
theorem c_X0_shorten_0 (l : Launch) (D : va_G) (sz : Nat) (h0 : Nat) (q : Nat) : Met l yX0_shorten wsX0_shorten ({ frames := 0, cells := 0, slots := 0, locals := 0 }) (va_Pc [.ref h0, .int 0] (zI D [(h0, .inr (0, [.ref q, .int 0, .int 0]))] [] sz)) (va_Qv (fun (_ : Unit) => True) (fun _ t => zB D (va_A [(h0, .inr (0, [.ref q, .int 0, .int 0]))] sz) [(h0, .inr (0, [.ref q, .int 0, .int 0]))] [] t) (va_A [(h0, .inr (0, [.ref q, .int 0, .int 0]))] sz)) 0 0 (va_A [(h0, .inr (0, [.ref q, .int 0, .int 0]))] sz) := by
  refine Met.ofW (cc := cX0_shorten) (maxL := 2) (ret := none) (by decide) rfl ?_
  intro p e s m args below meth c s₁ B hml hv
  obtain ⟨rfl, hv⟩ := hv
  have hx := B.exec
  have hb := B.bytes
  have hr := B.returns
  have hts := atoms_spec (ws := wsX0_shorten) B.pre
  have hown : s.vm.findClass RX0 = some m.cls := findClass_of_methodNamed B.named
  have hlocks := B.notSynchronized
  have hiX0 : ∀ w ∈ u_ws RX0 TX0 3, w ∈ wsX0_shorten := (fun _ h => List.mem_cons_of_mem _ (List.mem_append_right _ h))
  obtain ⟨hsz, z⟩ := hv.start
  clear hv
  subst hsz
  generalize va_A [(h0, .inr (0, [.ref q, .int 0, .int 0]))] s.heap.size = A at z ⊢
  have hl := lv_entry ([.ref h0, .int 0]) (n := 2) (Nat.le_of_ble_eq_true rfl)
  rw [lg_entry_eq]
  generalize (lg_sl ([.ref h0, .int 0]) ++ List.replicate (2 - (lg_sl ([.ref h0, .int 0])).length) Slot.unset).toArray = ls at hl ⊢
  have hl : lv_has ls 2 [(0, .ref h0), (1, .int 0)] := hl
  refine z_begin z (fun H locs z => ?_)
  refine lv_iload_n hx hb dX0_shorten_0 rfl (lv_at hl 1 rfl) ?_
  refine lv_if_lt (tgt := 22) hx hb dX0_shorten_1 (by decide) (fun c_1 => absurd c_1 (by decide)) (fun c_1 => ?_)
  refine lv_iload_n hx hb dX0_shorten_4 rfl (lv_at hl 1 rfl) ?_
  refine lv_aload_n hx hb dX0_shorten_5 rfl (lv_at hl 0 rfl) ?_
  refine z_get (v := .int 0) (C := RX0) (T := TX0) (N := 3) hx hb hts hiX0 hown z 0 rfl rfl 1 (by decide) (show Cond.fieldLink RX0 21 "GainTrees$Bytes" "kept" "I" ∈ wsX0_shorten by decide +kernel) rfl rfl dX0_shorten_6 ?_
  refine lv_icmp_gt (tgt := 22) hx hb dX0_shorten_9 (by decide) (fun c_2 => absurd c_2 (by decide)) (fun c_2 => ?_)
  refine lv_aload_n hx hb dX0_shorten_12 rfl (lv_at hl 0 rfl) ?_
  refine lv_iload_n hx hb dX0_shorten_13 rfl (lv_at hl 1 rfl) ?_
  refine z_put (v := .int 0) (C := RX0) (T := TX0) (N := 3) hx hb hts hiX0 tyX0 tyX0_ok nmX0 hown z 0 rfl rfl 1 (by decide) (show Cond.fieldLink RX0 21 "GainTrees$Bytes" "kept" "I" ∈ wsX0_shorten by decide +kernel) rfl rfl rfl rfl (Nat.le_of_ble_eq_true rfl) dX0_shorten_14 (fun H locs z => ?_)
  have z : zw D [(h0, .inr (0, [.ref q, .int 0, .int 0]))] [] A s.heap s H locs := z
  refine lv_aload_n hx hb dX0_shorten_17 rfl (lv_at hl 0 rfl) ?_
  refine lv_iload_n hx hb dX0_shorten_18 rfl (lv_at hl 1 rfl) ?_
  refine z_put (v := .int 0) (C := RX0) (T := TX0) (N := 3) hx hb hts hiX0 tyX0 tyX0_ok nmX0 hown z 0 rfl rfl 2 (by decide) (show Cond.fieldLink RX0 25 "GainTrees$Bytes" "told" "I" ∈ wsX0_shorten by decide +kernel) rfl rfl rfl rfl (Nat.le_of_ble_eq_true rfl) dX0_shorten_19 (fun H locs z => ?_)
  have z : zw D [(h0, .inr (0, [.ref q, .int 0, .int 0]))] [] A s.heap s H locs := z
  exact z_vret hx hb hr hlocks z (fun t h => h.sub [0] [] (by decide) rfl rfl) (Nat.le_of_ble_eq_true rfl) (Nat.le_of_ble_eq_true rfl) dX0_shorten_22

set_option maxHeartbeats 4000000 in
set_option maxRecDepth 100000 in
theorem c_X0_shorten_n (l : Launch) (D : va_G) (sz : Nat) (h0 : Nat) (q : Nat) (n : Int32) : Met l yX0_shorten wsX0_shorten ({ frames := 0, cells := 0, slots := 0, locals := 0 }) (va_Pc [.ref h0, .int n] (zI D [(h0, .inr (0, [.ref q, .int 0, .int 0]))] [] sz)) (va_Qv (fun (_ : Unit) => True) (fun _ t => zB D (va_A [(h0, .inr (0, [.ref q, .int 0, .int 0]))] sz) [] [] t) (va_A [(h0, .inr (0, [.ref q, .int 0, .int 0]))] sz)) 0 0 (va_A [(h0, .inr (0, [.ref q, .int 0, .int 0]))] sz) := by
  refine Met.ofW (cc := cX0_shorten) (maxL := 2) (ret := none) (by decide) rfl ?_
  intro p e s m args below meth c s₁ B hml hv
  obtain ⟨rfl, hv⟩ := hv
  have hx := B.exec
  have hb := B.bytes
  have hr := B.returns
  have hts := atoms_spec (ws := wsX0_shorten) B.pre
  have hown : s.vm.findClass RX0 = some m.cls := findClass_of_methodNamed B.named
  have hlocks := B.notSynchronized
  have hiX0 : ∀ w ∈ u_ws RX0 TX0 3, w ∈ wsX0_shorten := (fun _ h => List.mem_cons_of_mem _ (List.mem_append_right _ h))
  obtain ⟨hsz, z⟩ := hv.start
  clear hv
  subst hsz
  generalize va_A [(h0, .inr (0, [.ref q, .int 0, .int 0]))] s.heap.size = A at z ⊢
  have hl := lv_entry ([.ref h0, .int n]) (n := 2) (Nat.le_of_ble_eq_true rfl)
  rw [lg_entry_eq]
  generalize (lg_sl ([.ref h0, .int n]) ++ List.replicate (2 - (lg_sl ([.ref h0, .int n])).length) Slot.unset).toArray = ls at hl ⊢
  have hl : lv_has ls 2 [(0, .ref h0), (1, .int n)] := hl
  refine z_begin z (fun H locs z => ?_)
  refine lv_iload_n hx hb dX0_shorten_0 rfl (lv_at hl 1 rfl) ?_
  refine lv_if_lt (tgt := 22) hx hb dX0_shorten_1 (by decide) (fun c_1 => ?_) (fun c_1 => ?_)
  · skip
    exact z_vret hx hb hr hlocks z (fun t h => h.sub [] [] (by decide) rfl rfl) (Nat.le_of_ble_eq_true rfl) (Nat.le_of_ble_eq_true rfl) dX0_shorten_22
  · skip
    refine lv_iload_n hx hb dX0_shorten_4 rfl (lv_at hl 1 rfl) ?_
    refine lv_aload_n hx hb dX0_shorten_5 rfl (lv_at hl 0 rfl) ?_
    refine z_get (v := .int 0) (C := RX0) (T := TX0) (N := 3) hx hb hts hiX0 hown z 0 rfl rfl 1 (by decide) (show Cond.fieldLink RX0 21 "GainTrees$Bytes" "kept" "I" ∈ wsX0_shorten by decide +kernel) rfl rfl dX0_shorten_6 ?_
    refine lv_icmp_gt (tgt := 22) hx hb dX0_shorten_9 (by decide) (fun c_2 => ?_) (fun c_2 => ?_)
    · skip
      exact z_vret hx hb hr hlocks z (fun t h => h.sub [] [] (by decide) rfl rfl) (Nat.le_of_ble_eq_true rfl) (Nat.le_of_ble_eq_true rfl) dX0_shorten_22
    · skip
      refine lv_aload_n hx hb dX0_shorten_12 rfl (lv_at hl 0 rfl) ?_
      refine lv_iload_n hx hb dX0_shorten_13 rfl (lv_at hl 1 rfl) ?_
      refine z_put (v := .int n) (C := RX0) (T := TX0) (N := 3) hx hb hts hiX0 tyX0 tyX0_ok nmX0 hown z 0 rfl rfl 1 (by decide) (show Cond.fieldLink RX0 21 "GainTrees$Bytes" "kept" "I" ∈ wsX0_shorten by decide +kernel) rfl rfl rfl rfl (Nat.le_of_ble_eq_true rfl) dX0_shorten_14 (fun H locs z => ?_)
      have z : zw D [(h0, .inr (0, [.ref q, .int n, .int 0]))] [] A s.heap s H locs := z
      refine lv_aload_n hx hb dX0_shorten_17 rfl (lv_at hl 0 rfl) ?_
      refine lv_iload_n hx hb dX0_shorten_18 rfl (lv_at hl 1 rfl) ?_
      refine z_put (v := .int n) (C := RX0) (T := TX0) (N := 3) hx hb hts hiX0 tyX0 tyX0_ok nmX0 hown z 0 rfl rfl 2 (by decide) (show Cond.fieldLink RX0 25 "GainTrees$Bytes" "told" "I" ∈ wsX0_shorten by decide +kernel) rfl rfl rfl rfl (Nat.le_of_ble_eq_true rfl) dX0_shorten_19 (fun H locs z => ?_)
      have z : zw D [(h0, .inr (0, [.ref q, .int n, .int n]))] [] A s.heap s H locs := z
      exact z_vret hx hb hr hlocks z (fun t h => h.sub [] [] (by decide) rfl rfl) (Nat.le_of_ble_eq_true rfl) (Nat.le_of_ble_eq_true rfl) dX0_shorten_22

set_option maxHeartbeats 4000000 in
set_option maxRecDepth 100000 in
/-- Names() -/
theorem c_X2_init (l : Launch) (D : va_G) (sz : Nat) (h0 : Nat) : Met l yX2_init wsX2_init ({ frames := 1, cells := 3, slots := 1022, locals := 20 }) (va_Pc [.ref h0] (zI D [(h0, .inr (2, [.null, .null, .null, .int 0, .int 0]))] [] sz)) (va_Qv (fun (_ : Unit) => True) (fun _ t => ∃ q1 : Nat, ∃ q2 : Nat, ∃ q3 : Nat, zB D (va_A [(h0, .inr (2, [.null, .null, .null, .int 0, .int 0]))] sz) [(h0, .inr (2, [.ref q1, .ref q2, .ref q3, .int 0, .int 0]))] [] t) (va_A [(h0, .inr (2, [.null, .null, .null, .int 0, .int 0]))] sz)) 3 1022 (va_A [(h0, .inr (2, [.null, .null, .null, .int 0, .int 0]))] sz) := by
  refine Met.ofW (cc := cX2_init) (maxL := 1) (ret := none) (by decide) rfl ?_
  intro p e s m args below meth c s₁ B hml hv
  obtain ⟨rfl, hv⟩ := hv
  have hx := B.exec
  have hb := B.bytes
  have hr := B.returns
  have hts := atoms_spec (ws := wsX2_init) B.pre
  have hown : s.vm.findClass RX2 = some m.cls := findClass_of_methodNamed B.named
  have hlocks := B.notSynchronized
  have hiX2 : ∀ w ∈ u_ws RX2 TX2 5, w ∈ wsX2_init := (fun _ h => List.mem_cons_of_mem _ (List.mem_append_right _ h))
  have hin : meth.name = "<init>" := (name_of_methodNamed B.named B.method).1
  obtain ⟨hsz, z⟩ := hv.start
  clear hv
  subst hsz
  generalize va_A [(h0, .inr (2, [.null, .null, .null, .int 0, .int 0]))] s.heap.size = A at z ⊢
  have hl := lv_entry ([.ref h0]) (n := 1) (Nat.le_of_ble_eq_true rfl)
  rw [lg_entry_eq]
  generalize (lg_sl ([.ref h0]) ++ List.replicate (1 - (lg_sl ([.ref h0])).length) Slot.unset).toArray = ls at hl ⊢
  have hl : lv_has ls 1 [(0, .ref h0)] := hl
  refine z_begin z (fun H locs z => ?_)
  refine lv_aload_n hx hb dX2_init_0 rfl (lv_at hl 0 rfl) ?_
  refine W.objInit hx hb hown (hts (.methodLink RX2 5 objectInit) (by decide +kernel)) (hts (.instanceMethod objectInit) (by decide +kernel)) (hts (.code objectInit ⟨#[0xb1]⟩ 1 none) (by decide +kernel)) rfl (by rw [hml]; exact hl.1) rfl dX2_init_1 (Nat.le_of_ble_eq_true rfl) (Nat.le_of_ble_eq_true rfl) ?_
  refine W.eq (g2 := F0 m 4 ls []) rfl ?_
  refine lv_aload_n hx hb dX2_init_4 rfl (lv_at hl 0 rfl) ?_
  refine lv_sipush (v := 936) hx hb dX2_init_5 (by decide) ?_
  refine z_newa (atype := .byte) (ty := .byte) (a0 := (936, .inl (fun _ => 0))) hx hb hts (show Cond.arrayClass .byte ∈ wsX2_init by decide +kernel) rfl z (fun _ => rfl) (by decide) (by decide) (by decide) (cells' := 1) (slots' := 936) (Nat.le_of_ble_eq_true rfl) (Nat.le_of_ble_eq_true rfl) rfl rfl dX2_init_8 (fun q_1 cA_2 H z => ?_)
  have z : zw D [(h0, .inr (2, [.null, .null, .null, .int 0, .int 0])), (q_1, .inl (cA_2, 936, .inl (fun _ => 0)))] [(cA_2, .byte)] A s.heap s H locs := z
  refine z_putF (v := .ref q_1) (C := RX2) (T := TX2) (N := 5) hx hb hts hiX2 tyX2 tyX2_ok nmX2 hown hin z 0 rfl rfl 0 (by decide) (show Cond.fieldLink RX2 11 "GainTrees$Names" "letters" "[B" ∈ wsX2_init by decide +kernel) rfl rfl rfl rfl rfl (Nat.le_of_ble_eq_true rfl) dX2_init_10 (fun H locs z => ?_)
  have z : zw D [(h0, .inr (2, [.ref q_1, .null, .null, .int 0, .int 0])), (q_1, .inl (cA_2, 936, .inl (fun _ => 0)))] [(cA_2, .byte)] A s.heap s H locs := z
  refine lv_aload_n hx hb dX2_init_13 rfl (lv_at hl 0 rfl) ?_
  refine lv_bipush (v := 78) hx hb dX2_init_14 (by decide) ?_
  refine z_newa (atype := .int) (ty := .int) (a0 := (78, .inl (fun _ => 0))) hx hb hts (show Cond.arrayClass .int ∈ wsX2_init by decide +kernel) rfl z (fun _ => rfl) (by decide) (by decide) (by decide) (cells' := 2) (slots' := 1014) (Nat.le_of_ble_eq_true rfl) (Nat.le_of_ble_eq_true rfl) rfl rfl dX2_init_16 (fun q_3 cA_4 H z => ?_)
  have z : zw D [(h0, .inr (2, [.ref q_1, .null, .null, .int 0, .int 0])), (q_1, .inl (cA_2, 936, .inl (fun _ => 0))), (q_3, .inl (cA_4, 78, .inl (fun _ => 0)))] [(cA_2, .byte), (cA_4, .int)] A s.heap s H locs := z
  refine z_putF (v := .ref q_3) (C := RX2) (T := TX2) (N := 5) hx hb hts hiX2 tyX2 tyX2_ok nmX2 hown hin z 0 rfl rfl 1 (by decide) (show Cond.fieldLink RX2 15 "GainTrees$Names" "lengths" "[I" ∈ wsX2_init by decide +kernel) rfl rfl rfl rfl rfl (Nat.le_of_ble_eq_true rfl) dX2_init_18 (fun H locs z => ?_)
  have z : zw D [(h0, .inr (2, [.ref q_1, .ref q_3, .null, .int 0, .int 0])), (q_1, .inl (cA_2, 936, .inl (fun _ => 0))), (q_3, .inl (cA_4, 78, .inl (fun _ => 0)))] [(cA_2, .byte), (cA_4, .int)] A s.heap s H locs := z
  refine lv_aload_n hx hb dX2_init_21 rfl (lv_at hl 0 rfl) ?_
  refine lv_bipush (v := 8) hx hb dX2_init_22 (by decide) ?_
  refine z_newa (atype := .int) (ty := .int) (a0 := (8, .inl (fun _ => 0))) hx hb hts (show Cond.arrayClass .int ∈ wsX2_init by decide +kernel) rfl z (fun _ => rfl) (by decide) (by decide) (by decide) (cells' := 3) (slots' := 1022) (Nat.le_of_ble_eq_true rfl) (Nat.le_of_ble_eq_true rfl) rfl rfl dX2_init_24 (fun q_5 cA_6 H z => ?_)
  have z : zw D [(h0, .inr (2, [.ref q_1, .ref q_3, .null, .int 0, .int 0])), (q_1, .inl (cA_2, 936, .inl (fun _ => 0))), (q_3, .inl (cA_4, 78, .inl (fun _ => 0))), (q_5, .inl (cA_6, 8, .inl (fun _ => 0)))] [(cA_2, .byte), (cA_4, .int), (cA_6, .int)] A s.heap s H locs := z
  refine z_putF (v := .ref q_5) (C := RX2) (T := TX2) (N := 5) hx hb hts hiX2 tyX2 tyX2_ok nmX2 hown hin z 0 rfl rfl 2 (by decide) (show Cond.fieldLink RX2 19 "GainTrees$Names" "values" "[I" ∈ wsX2_init by decide +kernel) rfl rfl rfl rfl rfl (Nat.le_of_ble_eq_true rfl) dX2_init_26 (fun H locs z => ?_)
  have z : zw D [(h0, .inr (2, [.ref q_1, .ref q_3, .ref q_5, .int 0, .int 0])), (q_1, .inl (cA_2, 936, .inl (fun _ => 0))), (q_3, .inl (cA_4, 78, .inl (fun _ => 0))), (q_5, .inl (cA_6, 8, .inl (fun _ => 0)))] [(cA_2, .byte), (cA_4, .int), (cA_6, .int)] A s.heap s H locs := z
  exact z_vret hx hb hr hlocks z (fun t h => ⟨q_1, q_3, q_5, h.sub [0] [] (by decide) rfl rfl⟩) (Nat.le_of_ble_eq_true rfl) (Nat.le_of_ble_eq_true rfl) dX2_init_29

set_option maxHeartbeats 4000000 in
set_option maxRecDepth 100000 in
theorem c_X2_wipe (l : Launch) (D : va_G) (sz : Nat) (kn : Nat) (kn1 : Nat) (kn2 : Nat) (kn3 : Nat) : Met l yX2_wipe wsX2_wipe ({ frames := 0, cells := 0, slots := 0, locals := 0 }) (va_Pc [.ref kn] (zI D [(kn, .inr (2, [.ref kn1, .ref kn2, .ref kn3, .int 0, .int 0]))] [] sz)) (va_Qv (fun (_ : Unit) => True) (fun _ t => zB D (va_A [(kn, .inr (2, [.ref kn1, .ref kn2, .ref kn3, .int 0, .int 0]))] sz) [(kn, .inr (2, [.ref kn1, .ref kn2, .ref kn3, .int 0, .int 0]))] [] t) (va_A [(kn, .inr (2, [.ref kn1, .ref kn2, .ref kn3, .int 0, .int 0]))] sz)) 0 0 (va_A [(kn, .inr (2, [.ref kn1, .ref kn2, .ref kn3, .int 0, .int 0]))] sz) := by
  refine Met.ofW (cc := cX2_wipe) (maxL := 1) (ret := none) (by decide) rfl ?_
  intro p e s m args below meth c s₁ B hml hv
  obtain ⟨rfl, hv⟩ := hv
  have hx := B.exec
  have hb := B.bytes
  have hr := B.returns
  have hts := atoms_spec (ws := wsX2_wipe) B.pre
  have hown : s.vm.findClass RX2 = some m.cls := findClass_of_methodNamed B.named
  have hlocks := B.notSynchronized
  have hiX2 : ∀ w ∈ u_ws RX2 TX2 5, w ∈ wsX2_wipe := (fun _ h => List.mem_cons_of_mem _ (List.mem_append_right _ h))
  obtain ⟨hsz, z⟩ := hv.start
  clear hv
  subst hsz
  generalize va_A [(kn, .inr (2, [.ref kn1, .ref kn2, .ref kn3, .int 0, .int 0]))] s.heap.size = A at z ⊢
  have hl := lv_entry ([.ref kn]) (n := 1) (Nat.le_of_ble_eq_true rfl)
  rw [lg_entry_eq]
  generalize (lg_sl ([.ref kn]) ++ List.replicate (1 - (lg_sl ([.ref kn])).length) Slot.unset).toArray = ls at hl ⊢
  have hl : lv_has ls 1 [(0, .ref kn)] := hl
  refine z_begin z (fun H locs z => ?_)
  refine lv_aload_n hx hb dX2_wipe_0 rfl (lv_at hl 0 rfl) ?_
  refine lv_iconst (v := 0) hx hb dX2_wipe_1 (by decide) ?_
  refine z_put (v := .int 0) (C := RX2) (T := TX2) (N := 5) hx hb hts hiX2 tyX2 tyX2_ok nmX2 hown z 0 rfl rfl 3 (by decide) (show Cond.fieldLink RX2 22 "GainTrees$Names" "classes" "I" ∈ wsX2_wipe by decide +kernel) rfl rfl rfl rfl (Nat.le_of_ble_eq_true rfl) dX2_wipe_2 (fun H locs z => ?_)
  have z : zw D [(kn, .inr (2, [.ref kn1, .ref kn2, .ref kn3, .int 0, .int 0]))] [] A s.heap s H locs := z
  refine lv_aload_n hx hb dX2_wipe_5 rfl (lv_at hl 0 rfl) ?_
  refine lv_iconst (v := 0) hx hb dX2_wipe_6 (by decide) ?_
  refine z_put (v := .int 0) (C := RX2) (T := TX2) (N := 5) hx hb hts hiX2 tyX2 tyX2_ok nmX2 hown z 0 rfl rfl 4 (by decide) (show Cond.fieldLink RX2 26 "GainTrees$Names" "attributes" "I" ∈ wsX2_wipe by decide +kernel) rfl rfl rfl rfl (Nat.le_of_ble_eq_true rfl) dX2_wipe_7 (fun H locs z => ?_)
  have z : zw D [(kn, .inr (2, [.ref kn1, .ref kn2, .ref kn3, .int 0, .int 0]))] [] A s.heap s H locs := z
  exact z_vret hx hb hr hlocks z (fun t h => h.sub [0] [] (by decide) rfl rfl) (Nat.le_of_ble_eq_true rfl) (Nat.le_of_ble_eq_true rfl) dX2_wipe_10

set_option maxHeartbeats 4000000 in
set_option maxRecDepth 100000 in
/-- Names.valuesOf, of none -/
theorem c_X2_valuesOf (l : Launch) (D : va_G) (sz : Nat) (kn : Nat) (kn1 : Nat) (kn2 : Nat) (kn3 : Nat) (k : Int32) : Met l yX2_valuesOf wsX2_valuesOf ({ frames := 0, cells := 0, slots := 0, locals := 0 }) (va_Pc [.ref kn, .int k] (zI D [(kn, .inr (2, [.ref kn1, .ref kn2, .ref kn3, .int 0, .int 0]))] [] sz)) (va_Qi (fun (r : Int32) (_ : Unit) => (-1) = r) (fun _ t => zB D (va_A [(kn, .inr (2, [.ref kn1, .ref kn2, .ref kn3, .int 0, .int 0]))] sz) [] [] t) (va_A [(kn, .inr (2, [.ref kn1, .ref kn2, .ref kn3, .int 0, .int 0]))] sz)) 0 0 (va_A [(kn, .inr (2, [.ref kn1, .ref kn2, .ref kn3, .int 0, .int 0]))] sz) := by
  refine Met.ofW (cc := cX2_valuesOf) (maxL := 2) (ret := (some .int)) (by decide) rfl ?_
  intro p e s m args below meth c s₁ B hml hv
  obtain ⟨rfl, hv⟩ := hv
  have hx := B.exec
  have hb := B.bytes
  have hr := B.returns
  have hts := atoms_spec (ws := wsX2_valuesOf) B.pre
  have hown : s.vm.findClass RX2 = some m.cls := findClass_of_methodNamed B.named
  have hlocks := B.notSynchronized
  have hiX2 : ∀ w ∈ u_ws RX2 TX2 5, w ∈ wsX2_valuesOf := (fun _ h => List.mem_cons_of_mem _ (List.mem_append_right _ h))
  obtain ⟨hsz, z⟩ := hv.start
  clear hv
  subst hsz
  generalize va_A [(kn, .inr (2, [.ref kn1, .ref kn2, .ref kn3, .int 0, .int 0]))] s.heap.size = A at z ⊢
  have hl := lv_entry ([.ref kn, .int k]) (n := 2) (Nat.le_of_ble_eq_true rfl)
  rw [lg_entry_eq]
  generalize (lg_sl ([.ref kn, .int k]) ++ List.replicate (2 - (lg_sl ([.ref kn, .int k])).length) Slot.unset).toArray = ls at hl ⊢
  have hl : lv_has ls 2 [(0, .ref kn), (1, .int k)] := hl
  refine z_begin z (fun H locs z => ?_)
  refine lv_iload_n hx hb dX2_valuesOf_0 rfl (lv_at hl 1 rfl) ?_
  refine lv_if_lt (tgt := 21) hx hb dX2_valuesOf_1 (by decide) (fun c_1 => ?_) (fun c_1 => ?_)
  · skip
    refine lv_iconst (v := (-1)) hx hb dX2_valuesOf_21 (by decide) ?_
    exact z_iret hx hb hr hlocks z (rfl) (fun t h => h.sub [] [] (by decide) rfl rfl) (Nat.le_of_ble_eq_true rfl) (Nat.le_of_ble_eq_true rfl) dX2_valuesOf_22
  · skip
    refine lv_iload_n hx hb dX2_valuesOf_4 rfl (lv_at hl 1 rfl) ?_
    refine lv_aload_n hx hb dX2_valuesOf_5 rfl (lv_at hl 0 rfl) ?_
    refine z_get (v := .int 0) (C := RX2) (T := TX2) (N := 5) hx hb hts hiX2 hown z 0 rfl rfl 4 (by decide) (show Cond.fieldLink RX2 26 "GainTrees$Names" "attributes" "I" ∈ wsX2_valuesOf by decide +kernel) rfl rfl dX2_valuesOf_6 ?_
    refine lv_icmp_ge (tgt := 21) hx hb dX2_valuesOf_9 (by decide) (fun c_2 => ?_) (fun c_2 => absurd (Int32.not_le.mp c_2) c_1)
    refine lv_iconst (v := (-1)) hx hb dX2_valuesOf_21 (by decide) ?_
    exact z_iret hx hb hr hlocks z (rfl) (fun t h => h.sub [] [] (by decide) rfl rfl) (Nat.le_of_ble_eq_true rfl) (Nat.le_of_ble_eq_true rfl) dX2_valuesOf_22

set_option maxHeartbeats 4000000 in
set_option maxRecDepth 100000 in
/-- Table(200) -/
theorem c_X8_init_200 (l : Launch) (D : va_G) (sz : Nat) (h0 : Nat) : Met l yX8_init wsX8_init ({ frames := 1, cells := 1, slots := 1800, locals := 21 }) (va_Pc [.ref h0, .int 200] (zI D [(h0, .inr (8, [.int 0, .null, .int 0]))] [] sz)) (va_Qv (fun (_ : Unit) => True) (fun _ t => ∃ q : Nat, zB D (va_A [(h0, .inr (8, [.int 0, .null, .int 0]))] sz) [(h0, .inr (8, [.int 200, .ref q, .int 0]))] [] t) (va_A [(h0, .inr (8, [.int 0, .null, .int 0]))] sz)) 1 1800 (va_A [(h0, .inr (8, [.int 0, .null, .int 0]))] sz) := by
  refine Met.ofW (cc := cX8_init) (maxL := 2) (ret := none) (by decide) rfl ?_
  intro p e s m args below meth c s₁ B hml hv
  obtain ⟨rfl, hv⟩ := hv
  have hx := B.exec
  have hb := B.bytes
  have hr := B.returns
  have hts := atoms_spec (ws := wsX8_init) B.pre
  have hown : s.vm.findClass RX8 = some m.cls := findClass_of_methodNamed B.named
  have hlocks := B.notSynchronized
  have hiX8 : ∀ w ∈ u_ws RX8 TX8 3, w ∈ wsX8_init := (fun _ h => List.mem_cons_of_mem _ (List.mem_append_right _ h))
  have hin : meth.name = "<init>" := (name_of_methodNamed B.named B.method).1
  obtain ⟨hsz, z⟩ := hv.start
  clear hv
  subst hsz
  generalize va_A [(h0, .inr (8, [.int 0, .null, .int 0]))] s.heap.size = A at z ⊢
  have hl := lv_entry ([.ref h0, .int 200]) (n := 2) (Nat.le_of_ble_eq_true rfl)
  rw [lg_entry_eq]
  generalize (lg_sl ([.ref h0, .int 200]) ++ List.replicate (2 - (lg_sl ([.ref h0, .int 200])).length) Slot.unset).toArray = ls at hl ⊢
  have hl : lv_has ls 2 [(0, .ref h0), (1, .int 200)] := hl
  refine z_begin z (fun H locs z => ?_)
  refine lv_aload_n hx hb dX8_init_0 rfl (lv_at hl 0 rfl) ?_
  refine W.objInit hx hb hown (hts (.methodLink RX8 3 objectInit) (by decide +kernel)) (hts (.instanceMethod objectInit) (by decide +kernel)) (hts (.code objectInit ⟨#[0xb1]⟩ 1 none) (by decide +kernel)) rfl (by rw [hml]; exact hl.1) rfl dX8_init_1 (Nat.le_of_ble_eq_true rfl) (Nat.le_of_ble_eq_true rfl) ?_
  refine W.eq (g2 := F0 m 4 ls []) rfl ?_
  refine lv_aload_n hx hb dX8_init_4 rfl (lv_at hl 0 rfl) ?_
  refine lv_iload_n hx hb dX8_init_5 rfl (lv_at hl 1 rfl) ?_
  refine lv_iconst (v := 0) hx hb dX8_init_6 (by decide) ?_
  refine va_mmax hx hb (hml.trans hl.1.symm) hown (hts (.methodLink RX8 9 Lib.Math.max.name) (by decide +kernel)) (hts (.static Lib.Math.max.name) (by decide +kernel)) (hts (.initialized "java/lang/Math") (by decide +kernel)) (hts (.code Lib.Math.max.name Lib.Math.max.code 2 (some .int)) (by decide +kernel)) (Nat.le_of_ble_eq_true rfl) (Nat.le_of_ble_eq_true rfl) (Nat.le_of_ble_eq_true rfl) (Nat.le_of_ble_eq_true rfl) dX8_init_7 ?_
  refine z_ti (y := 200) (by decide) ?_
  refine z_putF (v := .int 200) (C := RX8) (T := TX8) (N := 3) hx hb hts hiX8 tyX8 tyX8_ok nmX8 hown hin z 0 rfl rfl 0 (by decide) (show Cond.fieldLink RX8 15 "GainTrees$Table" "most" "I" ∈ wsX8_init by decide +kernel) rfl rfl rfl rfl rfl (Nat.le_of_ble_eq_true rfl) dX8_init_10 (fun H locs z => ?_)
  have z : zw D [(h0, .inr (8, [.int 200, .null, .int 0]))] [] A s.heap s H locs := z
  refine lv_aload_n hx hb dX8_init_13 rfl (lv_at hl 0 rfl) ?_
  refine lv_aload_n hx hb dX8_init_14 rfl (lv_at hl 0 rfl) ?_
  refine z_get (v := .int 200) (C := RX8) (T := TX8) (N := 3) hx hb hts hiX8 hown z 0 rfl rfl 0 (by decide) (show Cond.fieldLink RX8 15 "GainTrees$Table" "most" "I" ∈ wsX8_init by decide +kernel) rfl rfl dX8_init_15 ?_
  refine lv_bipush (v := 9) hx hb dX8_init_18 (by decide) ?_
  refine lv_imul hx hb dX8_init_20 ?_
  refine z_ti (y := 1800) (by decide) ?_
  refine z_newa (atype := .int) (ty := .int) (a0 := (1800, .inl (fun _ => 0))) hx hb hts (show Cond.arrayClass .int ∈ wsX8_init by decide +kernel) rfl z (fun _ => rfl) (by decide) (by decide) (by decide) (cells' := 1) (slots' := 1800) (Nat.le_of_ble_eq_true rfl) (Nat.le_of_ble_eq_true rfl) rfl rfl dX8_init_21 (fun q_1 cA_2 H z => ?_)
  have z : zw D [(h0, .inr (8, [.int 200, .null, .int 0])), (q_1, .inl (cA_2, 1800, .inl (fun _ => 0)))] [(cA_2, .int)] A s.heap s H locs := z
  refine z_putF (v := .ref q_1) (C := RX8) (T := TX8) (N := 3) hx hb hts hiX8 tyX8 tyX8_ok nmX8 hown hin z 0 rfl rfl 1 (by decide) (show Cond.fieldLink RX8 21 "GainTrees$Table" "cells" "[I" ∈ wsX8_init by decide +kernel) rfl rfl rfl rfl rfl (Nat.le_of_ble_eq_true rfl) dX8_init_23 (fun H locs z => ?_)
  have z : zw D [(h0, .inr (8, [.int 200, .ref q_1, .int 0])), (q_1, .inl (cA_2, 1800, .inl (fun _ => 0)))] [(cA_2, .int)] A s.heap s H locs := z
  exact z_vret hx hb hr hlocks z (fun t h => ⟨q_1, h.sub [0] [] (by decide) rfl rfl⟩) (Nat.le_of_ble_eq_true rfl) (Nat.le_of_ble_eq_true rfl) dX8_init_26

set_option maxHeartbeats 4000000 in
set_option maxRecDepth 100000 in
/-- Table(100) -/
theorem c_X8_init_100 (l : Launch) (D : va_G) (sz : Nat) (h0 : Nat) : Met l yX8_init wsX8_init ({ frames := 1, cells := 1, slots := 900, locals := 21 }) (va_Pc [.ref h0, .int 100] (zI D [(h0, .inr (8, [.int 0, .null, .int 0]))] [] sz)) (va_Qv (fun (_ : Unit) => True) (fun _ t => ∃ q : Nat, zB D (va_A [(h0, .inr (8, [.int 0, .null, .int 0]))] sz) [(h0, .inr (8, [.int 100, .ref q, .int 0]))] [] t) (va_A [(h0, .inr (8, [.int 0, .null, .int 0]))] sz)) 1 900 (va_A [(h0, .inr (8, [.int 0, .null, .int 0]))] sz) := by
  refine Met.ofW (cc := cX8_init) (maxL := 2) (ret := none) (by decide) rfl ?_
  intro p e s m args below meth c s₁ B hml hv
  obtain ⟨rfl, hv⟩ := hv
  have hx := B.exec
  have hb := B.bytes
  have hr := B.returns
  have hts := atoms_spec (ws := wsX8_init) B.pre
  have hown : s.vm.findClass RX8 = some m.cls := findClass_of_methodNamed B.named
  have hlocks := B.notSynchronized
  have hiX8 : ∀ w ∈ u_ws RX8 TX8 3, w ∈ wsX8_init := (fun _ h => List.mem_cons_of_mem _ (List.mem_append_right _ h))
  have hin : meth.name = "<init>" := (name_of_methodNamed B.named B.method).1
  obtain ⟨hsz, z⟩ := hv.start
  clear hv
  subst hsz
  generalize va_A [(h0, .inr (8, [.int 0, .null, .int 0]))] s.heap.size = A at z ⊢
  have hl := lv_entry ([.ref h0, .int 100]) (n := 2) (Nat.le_of_ble_eq_true rfl)
  rw [lg_entry_eq]
  generalize (lg_sl ([.ref h0, .int 100]) ++ List.replicate (2 - (lg_sl ([.ref h0, .int 100])).length) Slot.unset).toArray = ls at hl ⊢
  have hl : lv_has ls 2 [(0, .ref h0), (1, .int 100)] := hl
  refine z_begin z (fun H locs z => ?_)
  refine lv_aload_n hx hb dX8_init_0 rfl (lv_at hl 0 rfl) ?_
  refine W.objInit hx hb hown (hts (.methodLink RX8 3 objectInit) (by decide +kernel)) (hts (.instanceMethod objectInit) (by decide +kernel)) (hts (.code objectInit ⟨#[0xb1]⟩ 1 none) (by decide +kernel)) rfl (by rw [hml]; exact hl.1) rfl dX8_init_1 (Nat.le_of_ble_eq_true rfl) (Nat.le_of_ble_eq_true rfl) ?_
  refine W.eq (g2 := F0 m 4 ls []) rfl ?_
  refine lv_aload_n hx hb dX8_init_4 rfl (lv_at hl 0 rfl) ?_
  refine lv_iload_n hx hb dX8_init_5 rfl (lv_at hl 1 rfl) ?_
  refine lv_iconst (v := 0) hx hb dX8_init_6 (by decide) ?_
  refine va_mmax hx hb (hml.trans hl.1.symm) hown (hts (.methodLink RX8 9 Lib.Math.max.name) (by decide +kernel)) (hts (.static Lib.Math.max.name) (by decide +kernel)) (hts (.initialized "java/lang/Math") (by decide +kernel)) (hts (.code Lib.Math.max.name Lib.Math.max.code 2 (some .int)) (by decide +kernel)) (Nat.le_of_ble_eq_true rfl) (Nat.le_of_ble_eq_true rfl) (Nat.le_of_ble_eq_true rfl) (Nat.le_of_ble_eq_true rfl) dX8_init_7 ?_
  refine z_ti (y := 100) (by decide) ?_
  refine z_putF (v := .int 100) (C := RX8) (T := TX8) (N := 3) hx hb hts hiX8 tyX8 tyX8_ok nmX8 hown hin z 0 rfl rfl 0 (by decide) (show Cond.fieldLink RX8 15 "GainTrees$Table" "most" "I" ∈ wsX8_init by decide +kernel) rfl rfl rfl rfl rfl (Nat.le_of_ble_eq_true rfl) dX8_init_10 (fun H locs z => ?_)
  have z : zw D [(h0, .inr (8, [.int 100, .null, .int 0]))] [] A s.heap s H locs := z
  refine lv_aload_n hx hb dX8_init_13 rfl (lv_at hl 0 rfl) ?_
  refine lv_aload_n hx hb dX8_init_14 rfl (lv_at hl 0 rfl) ?_
  refine z_get (v := .int 100) (C := RX8) (T := TX8) (N := 3) hx hb hts hiX8 hown z 0 rfl rfl 0 (by decide) (show Cond.fieldLink RX8 15 "GainTrees$Table" "most" "I" ∈ wsX8_init by decide +kernel) rfl rfl dX8_init_15 ?_
  refine lv_bipush (v := 9) hx hb dX8_init_18 (by decide) ?_
  refine lv_imul hx hb dX8_init_20 ?_
  refine z_ti (y := 900) (by decide) ?_
  refine z_newa (atype := .int) (ty := .int) (a0 := (900, .inl (fun _ => 0))) hx hb hts (show Cond.arrayClass .int ∈ wsX8_init by decide +kernel) rfl z (fun _ => rfl) (by decide) (by decide) (by decide) (cells' := 1) (slots' := 900) (Nat.le_of_ble_eq_true rfl) (Nat.le_of_ble_eq_true rfl) rfl rfl dX8_init_21 (fun q_1 cA_2 H z => ?_)
  have z : zw D [(h0, .inr (8, [.int 100, .null, .int 0])), (q_1, .inl (cA_2, 900, .inl (fun _ => 0)))] [(cA_2, .int)] A s.heap s H locs := z
  refine z_putF (v := .ref q_1) (C := RX8) (T := TX8) (N := 3) hx hb hts hiX8 tyX8 tyX8_ok nmX8 hown hin z 0 rfl rfl 1 (by decide) (show Cond.fieldLink RX8 21 "GainTrees$Table" "cells" "[I" ∈ wsX8_init by decide +kernel) rfl rfl rfl rfl rfl (Nat.le_of_ble_eq_true rfl) dX8_init_23 (fun H locs z => ?_)
  have z : zw D [(h0, .inr (8, [.int 100, .ref q_1, .int 0])), (q_1, .inl (cA_2, 900, .inl (fun _ => 0)))] [(cA_2, .int)] A s.heap s H locs := z
  exact z_vret hx hb hr hlocks z (fun t h => ⟨q_1, h.sub [0] [] (by decide) rfl rfl⟩) (Nat.le_of_ble_eq_true rfl) (Nat.le_of_ble_eq_true rfl) dX8_init_26

set_option maxHeartbeats 4000000 in
set_option maxRecDepth 100000 in
/-- Table(1) -/
theorem c_X8_init_1 (l : Launch) (D : va_G) (sz : Nat) (h0 : Nat) : Met l yX8_init wsX8_init ({ frames := 1, cells := 1, slots := 9, locals := 21 }) (va_Pc [.ref h0, .int 1] (zI D [(h0, .inr (8, [.int 0, .null, .int 0]))] [] sz)) (va_Qv (fun (_ : Unit) => True) (fun _ t => ∃ q : Nat, zB D (va_A [(h0, .inr (8, [.int 0, .null, .int 0]))] sz) [(h0, .inr (8, [.int 1, .ref q, .int 0]))] [] t) (va_A [(h0, .inr (8, [.int 0, .null, .int 0]))] sz)) 1 9 (va_A [(h0, .inr (8, [.int 0, .null, .int 0]))] sz) := by
  refine Met.ofW (cc := cX8_init) (maxL := 2) (ret := none) (by decide) rfl ?_
  intro p e s m args below meth c s₁ B hml hv
  obtain ⟨rfl, hv⟩ := hv
  have hx := B.exec
  have hb := B.bytes
  have hr := B.returns
  have hts := atoms_spec (ws := wsX8_init) B.pre
  have hown : s.vm.findClass RX8 = some m.cls := findClass_of_methodNamed B.named
  have hlocks := B.notSynchronized
  have hiX8 : ∀ w ∈ u_ws RX8 TX8 3, w ∈ wsX8_init := (fun _ h => List.mem_cons_of_mem _ (List.mem_append_right _ h))
  have hin : meth.name = "<init>" := (name_of_methodNamed B.named B.method).1
  obtain ⟨hsz, z⟩ := hv.start
  clear hv
  subst hsz
  generalize va_A [(h0, .inr (8, [.int 0, .null, .int 0]))] s.heap.size = A at z ⊢
  have hl := lv_entry ([.ref h0, .int 1]) (n := 2) (Nat.le_of_ble_eq_true rfl)
  rw [lg_entry_eq]
  generalize (lg_sl ([.ref h0, .int 1]) ++ List.replicate (2 - (lg_sl ([.ref h0, .int 1])).length) Slot.unset).toArray = ls at hl ⊢
  have hl : lv_has ls 2 [(0, .ref h0), (1, .int 1)] := hl
  refine z_begin z (fun H locs z => ?_)
  refine lv_aload_n hx hb dX8_init_0 rfl (lv_at hl 0 rfl) ?_
  refine W.objInit hx hb hown (hts (.methodLink RX8 3 objectInit) (by decide +kernel)) (hts (.instanceMethod objectInit) (by decide +kernel)) (hts (.code objectInit ⟨#[0xb1]⟩ 1 none) (by decide +kernel)) rfl (by rw [hml]; exact hl.1) rfl dX8_init_1 (Nat.le_of_ble_eq_true rfl) (Nat.le_of_ble_eq_true rfl) ?_
  refine W.eq (g2 := F0 m 4 ls []) rfl ?_
  refine lv_aload_n hx hb dX8_init_4 rfl (lv_at hl 0 rfl) ?_
  refine lv_iload_n hx hb dX8_init_5 rfl (lv_at hl 1 rfl) ?_
  refine lv_iconst (v := 0) hx hb dX8_init_6 (by decide) ?_
  refine va_mmax hx hb (hml.trans hl.1.symm) hown (hts (.methodLink RX8 9 Lib.Math.max.name) (by decide +kernel)) (hts (.static Lib.Math.max.name) (by decide +kernel)) (hts (.initialized "java/lang/Math") (by decide +kernel)) (hts (.code Lib.Math.max.name Lib.Math.max.code 2 (some .int)) (by decide +kernel)) (Nat.le_of_ble_eq_true rfl) (Nat.le_of_ble_eq_true rfl) (Nat.le_of_ble_eq_true rfl) (Nat.le_of_ble_eq_true rfl) dX8_init_7 ?_
  refine z_ti (y := 1) (by decide) ?_
  refine z_putF (v := .int 1) (C := RX8) (T := TX8) (N := 3) hx hb hts hiX8 tyX8 tyX8_ok nmX8 hown hin z 0 rfl rfl 0 (by decide) (show Cond.fieldLink RX8 15 "GainTrees$Table" "most" "I" ∈ wsX8_init by decide +kernel) rfl rfl rfl rfl rfl (Nat.le_of_ble_eq_true rfl) dX8_init_10 (fun H locs z => ?_)
  have z : zw D [(h0, .inr (8, [.int 1, .null, .int 0]))] [] A s.heap s H locs := z
  refine lv_aload_n hx hb dX8_init_13 rfl (lv_at hl 0 rfl) ?_
  refine lv_aload_n hx hb dX8_init_14 rfl (lv_at hl 0 rfl) ?_
  refine z_get (v := .int 1) (C := RX8) (T := TX8) (N := 3) hx hb hts hiX8 hown z 0 rfl rfl 0 (by decide) (show Cond.fieldLink RX8 15 "GainTrees$Table" "most" "I" ∈ wsX8_init by decide +kernel) rfl rfl dX8_init_15 ?_
  refine lv_bipush (v := 9) hx hb dX8_init_18 (by decide) ?_
  refine lv_imul hx hb dX8_init_20 ?_
  refine z_ti (y := 9) (by decide) ?_
  refine z_newa (atype := .int) (ty := .int) (a0 := (9, .inl (fun _ => 0))) hx hb hts (show Cond.arrayClass .int ∈ wsX8_init by decide +kernel) rfl z (fun _ => rfl) (by decide) (by decide) (by decide) (cells' := 1) (slots' := 9) (Nat.le_of_ble_eq_true rfl) (Nat.le_of_ble_eq_true rfl) rfl rfl dX8_init_21 (fun q_1 cA_2 H z => ?_)
  have z : zw D [(h0, .inr (8, [.int 1, .null, .int 0])), (q_1, .inl (cA_2, 9, .inl (fun _ => 0)))] [(cA_2, .int)] A s.heap s H locs := z
  refine z_putF (v := .ref q_1) (C := RX8) (T := TX8) (N := 3) hx hb hts hiX8 tyX8 tyX8_ok nmX8 hown hin z 0 rfl rfl 1 (by decide) (show Cond.fieldLink RX8 21 "GainTrees$Table" "cells" "[I" ∈ wsX8_init by decide +kernel) rfl rfl rfl rfl rfl (Nat.le_of_ble_eq_true rfl) dX8_init_23 (fun H locs z => ?_)
  have z : zw D [(h0, .inr (8, [.int 1, .ref q_1, .int 0])), (q_1, .inl (cA_2, 9, .inl (fun _ => 0)))] [(cA_2, .int)] A s.heap s H locs := z
  exact z_vret hx hb hr hlocks z (fun t h => ⟨q_1, h.sub [0] [] (by decide) rfl rfl⟩) (Nat.le_of_ble_eq_true rfl) (Nat.le_of_ble_eq_true rfl) dX8_init_26

set_option maxHeartbeats 4000000 in
set_option maxRecDepth 100000 in
/-- Reader(tape) -/
theorem c_X4_init (l : Launch) (D : va_G) (sz : Nat) (h0 : Nat) (t0 : Nat) : Met l yX4_init wsX4_init ({ frames := 1, cells := 0, slots := 0, locals := 20 }) (va_Pc [.ref h0, .ref t0] (zI D [(h0, .inr (4, [.null, .int 0, .int 0, .int 0, .int 0, .int 0, .long 0, .int 0, .int 0, .int 0]))] [] sz)) (va_Qv (fun (_ : Unit) => True) (fun _ t => zB D (va_A [(h0, .inr (4, [.null, .int 0, .int 0, .int 0, .int 0, .int 0, .long 0, .int 0, .int 0, .int 0]))] sz) [(h0, .inr (4, [.ref t0, .int 0, .int (-1), .int 0, .int 0, .int 0, .long 0, .int 0, .int 0, .int 0]))] [] t) (va_A [(h0, .inr (4, [.null, .int 0, .int 0, .int 0, .int 0, .int 0, .long 0, .int 0, .int 0, .int 0]))] sz)) 0 0 (va_A [(h0, .inr (4, [.null, .int 0, .int 0, .int 0, .int 0, .int 0, .long 0, .int 0, .int 0, .int 0]))] sz) := by
  refine Met.ofW (cc := cX4_init) (maxL := 2) (ret := none) (by decide) rfl ?_
  intro p e s m args below meth c s₁ B hml hv
  obtain ⟨rfl, hv⟩ := hv
  have hx := B.exec
  have hb := B.bytes
  have hr := B.returns
  have hts := atoms_spec (ws := wsX4_init) B.pre
  have hown : s.vm.findClass RX4 = some m.cls := findClass_of_methodNamed B.named
  have hlocks := B.notSynchronized
  have hiX4 : ∀ w ∈ u_ws RX4 TX4 10, w ∈ wsX4_init := (fun _ h => List.mem_cons_of_mem _ (List.mem_append_right _ h))
  have hin : meth.name = "<init>" := (name_of_methodNamed B.named B.method).1
  obtain ⟨hsz, z⟩ := hv.start
  clear hv
  subst hsz
  generalize va_A [(h0, .inr (4, [.null, .int 0, .int 0, .int 0, .int 0, .int 0, .long 0, .int 0, .int 0, .int 0]))] s.heap.size = A at z ⊢
  have hl := lv_entry ([.ref h0, .ref t0]) (n := 2) (Nat.le_of_ble_eq_true rfl)
  rw [lg_entry_eq]
  generalize (lg_sl ([.ref h0, .ref t0]) ++ List.replicate (2 - (lg_sl ([.ref h0, .ref t0])).length) Slot.unset).toArray = ls at hl ⊢
  have hl : lv_has ls 2 [(0, .ref h0), (1, .ref t0)] := hl
  refine z_begin z (fun H locs z => ?_)
  refine lv_aload_n hx hb dX4_init_0 rfl (lv_at hl 0 rfl) ?_
  refine W.objInit hx hb hown (hts (.methodLink RX4 3 objectInit) (by decide +kernel)) (hts (.instanceMethod objectInit) (by decide +kernel)) (hts (.code objectInit ⟨#[0xb1]⟩ 1 none) (by decide +kernel)) rfl (by rw [hml]; exact hl.1) rfl dX4_init_1 (Nat.le_of_ble_eq_true rfl) (Nat.le_of_ble_eq_true rfl) ?_
  refine W.eq (g2 := F0 m 4 ls []) rfl ?_
  refine lv_aload_n hx hb dX4_init_4 rfl (lv_at hl 0 rfl) ?_
  refine lv_iconst (v := (-1)) hx hb dX4_init_5 (by decide) ?_
  refine z_put (v := .int (-1)) (C := RX4) (T := TX4) (N := 10) hx hb hts hiX4 tyX4 tyX4_ok nmX4 hown z 0 rfl rfl 2 (by decide) (show Cond.fieldLink RX4 9 "GainTrees$Reader" "faultAt" "I" ∈ wsX4_init by decide +kernel) rfl rfl rfl rfl (Nat.le_of_ble_eq_true rfl) dX4_init_6 (fun H locs z => ?_)
  have z : zw D [(h0, .inr (4, [.null, .int 0, .int (-1), .int 0, .int 0, .int 0, .long 0, .int 0, .int 0, .int 0]))] [] A s.heap s H locs := z
  refine lv_aload_n hx hb dX4_init_9 rfl (lv_at hl 0 rfl) ?_
  refine lv_aload_n hx hb dX4_init_10 rfl (lv_at hl 1 rfl) ?_
  refine z_putF (v := .ref t0) (C := RX4) (T := TX4) (N := 10) hx hb hts hiX4 tyX4 tyX4_ok nmX4 hown hin z 0 rfl rfl 0 (by decide) (show Cond.fieldLink RX4 15 "GainTrees$Reader" "tape" "LGainTrees$Bytes;" ∈ wsX4_init by decide +kernel) rfl rfl rfl rfl rfl (Nat.le_of_ble_eq_true rfl) dX4_init_11 (fun H locs z => ?_)
  have z : zw D [(h0, .inr (4, [.ref t0, .int 0, .int (-1), .int 0, .int 0, .int 0, .long 0, .int 0, .int 0, .int 0]))] [] A s.heap s H locs := z
  exact z_vret hx hb hr hlocks z (fun t h => h.sub [0] [] (by decide) rfl rfl) (Nat.le_of_ble_eq_true rfl) (Nat.le_of_ble_eq_true rfl) dX4_init_14

set_option maxHeartbeats 4000000 in
set_option maxRecDepth 100000 in
/-- Writer(result) -/
theorem c_X10_init (l : Launch) (D : va_G) (sz : Nat) (h0 : Nat) (t0 : Nat) : Met l yX10_init wsX10_init ({ frames := 1, cells := 0, slots := 0, locals := 20 }) (va_Pc [.ref h0, .ref t0] (zI D [(h0, .inr (10, [.null]))] [] sz)) (va_Qv (fun (_ : Unit) => True) (fun _ t => zB D (va_A [(h0, .inr (10, [.null]))] sz) [] [] t) (va_A [(h0, .inr (10, [.null]))] sz)) 0 0 (va_A [(h0, .inr (10, [.null]))] sz) := by
  refine Met.ofW (cc := cX10_init) (maxL := 2) (ret := none) (by decide) rfl ?_
  intro p e s m args below meth c s₁ B hml hv
  obtain ⟨rfl, hv⟩ := hv
  have hx := B.exec
  have hb := B.bytes
  have hr := B.returns
  have hts := atoms_spec (ws := wsX10_init) B.pre
  have hown : s.vm.findClass RX10 = some m.cls := findClass_of_methodNamed B.named
  have hlocks := B.notSynchronized
  have hiX10 : ∀ w ∈ u_ws RX10 TX10 1, w ∈ wsX10_init := (fun _ h => List.mem_cons_of_mem _ (List.mem_append_right _ h))
  have hin : meth.name = "<init>" := (name_of_methodNamed B.named B.method).1
  obtain ⟨hsz, z⟩ := hv.start
  clear hv
  subst hsz
  generalize va_A [(h0, .inr (10, [.null]))] s.heap.size = A at z ⊢
  have hl := lv_entry ([.ref h0, .ref t0]) (n := 2) (Nat.le_of_ble_eq_true rfl)
  rw [lg_entry_eq]
  generalize (lg_sl ([.ref h0, .ref t0]) ++ List.replicate (2 - (lg_sl ([.ref h0, .ref t0])).length) Slot.unset).toArray = ls at hl ⊢
  have hl : lv_has ls 2 [(0, .ref h0), (1, .ref t0)] := hl
  refine z_begin z (fun H locs z => ?_)
  refine lv_aload_n hx hb dX10_init_0 rfl (lv_at hl 0 rfl) ?_
  refine W.objInit hx hb hown (hts (.methodLink RX10 3 objectInit) (by decide +kernel)) (hts (.instanceMethod objectInit) (by decide +kernel)) (hts (.code objectInit ⟨#[0xb1]⟩ 1 none) (by decide +kernel)) rfl (by rw [hml]; exact hl.1) rfl dX10_init_1 (Nat.le_of_ble_eq_true rfl) (Nat.le_of_ble_eq_true rfl) ?_
  refine W.eq (g2 := F0 m 4 ls []) rfl ?_
  refine lv_aload_n hx hb dX10_init_4 rfl (lv_at hl 0 rfl) ?_
  refine lv_aload_n hx hb dX10_init_5 rfl (lv_at hl 1 rfl) ?_
  refine z_putF (v := .ref t0) (C := RX10) (T := TX10) (N := 1) hx hb hts hiX10 tyX10 tyX10_ok nmX10 hown hin z 0 rfl rfl 0 (by decide) (show Cond.fieldLink RX10 9 "GainTrees$Writer" "result" "LGainTrees$Bytes;" ∈ wsX10_init by decide +kernel) rfl rfl rfl rfl rfl (Nat.le_of_ble_eq_true rfl) dX10_init_6 (fun H locs z => ?_)
  have z : zw D [(h0, .inr (10, [.ref t0]))] [] A s.heap s H locs := z
  exact z_vret hx hb hr hlocks z (fun t h => h.sub [] [] (by decide) rfl rfl) (Nat.le_of_ble_eq_true rfl) (Nat.le_of_ble_eq_true rfl) dX10_init_9

set_option maxHeartbeats 4000000 in
set_option maxRecDepth 100000 in
/-- Split() -/
theorem c_X7_init (l : Launch) (D : va_G) (sz : Nat) (h0 : Nat) : Met l yX7_init wsX7_init ({ frames := 1, cells := 2, slots := 56, locals := 20 }) (va_Pc [.ref h0] (zI D [(h0, .inr (7, [.int 0, .int 0, .int 0, .int 0, .int 0, .int 0, .null, .null, .long 0, .long 0, .long 0]))] [] sz)) (va_Qv (fun (_ : Unit) => True) (fun _ t => ∃ q1 : Nat, ∃ q2 : Nat, zB D (va_A [(h0, .inr (7, [.int 0, .int 0, .int 0, .int 0, .int 0, .int 0, .null, .null, .long 0, .long 0, .long 0]))] sz) [(h0, .inr (7, [.int 0, .int 0, .int 0, .int 0, .int 0, .int 0, .ref q1, .ref q2, .long 0, .long 0, .long 0]))] [] t) (va_A [(h0, .inr (7, [.int 0, .int 0, .int 0, .int 0, .int 0, .int 0, .null, .null, .long 0, .long 0, .long 0]))] sz)) 2 56 (va_A [(h0, .inr (7, [.int 0, .int 0, .int 0, .int 0, .int 0, .int 0, .null, .null, .long 0, .long 0, .long 0]))] sz) := by
  refine Met.ofW (cc := cX7_init) (maxL := 1) (ret := none) (by decide) rfl ?_
  intro p e s m args below meth c s₁ B hml hv
  obtain ⟨rfl, hv⟩ := hv
  have hx := B.exec
  have hb := B.bytes
  have hr := B.returns
  have hts := atoms_spec (ws := wsX7_init) B.pre
  have hown : s.vm.findClass RX7 = some m.cls := findClass_of_methodNamed B.named
  have hlocks := B.notSynchronized
  have hiX7 : ∀ w ∈ u_ws RX7 TX7 11, w ∈ wsX7_init := (fun _ h => List.mem_cons_of_mem _ (List.mem_append_right _ h))
  have hin : meth.name = "<init>" := (name_of_methodNamed B.named B.method).1
  obtain ⟨hsz, z⟩ := hv.start
  clear hv
  subst hsz
  generalize va_A [(h0, .inr (7, [.int 0, .int 0, .int 0, .int 0, .int 0, .int 0, .null, .null, .long 0, .long 0, .long 0]))] s.heap.size = A at z ⊢
  have hl := lv_entry ([.ref h0]) (n := 1) (Nat.le_of_ble_eq_true rfl)
  rw [lg_entry_eq]
  generalize (lg_sl ([.ref h0]) ++ List.replicate (1 - (lg_sl ([.ref h0])).length) Slot.unset).toArray = ls at hl ⊢
  have hl : lv_has ls 1 [(0, .ref h0)] := hl
  refine z_begin z (fun H locs z => ?_)
  refine lv_aload_n hx hb dX7_init_0 rfl (lv_at hl 0 rfl) ?_
  refine W.objInit hx hb hown (hts (.methodLink RX7 3 objectInit) (by decide +kernel)) (hts (.instanceMethod objectInit) (by decide +kernel)) (hts (.code objectInit ⟨#[0xb1]⟩ 1 none) (by decide +kernel)) rfl (by rw [hml]; exact hl.1) rfl dX7_init_1 (Nat.le_of_ble_eq_true rfl) (Nat.le_of_ble_eq_true rfl) ?_
  refine W.eq (g2 := F0 m 4 ls []) rfl ?_
  refine lv_aload_n hx hb dX7_init_4 rfl (lv_at hl 0 rfl) ?_
  refine lv_bipush (v := 8) hx hb dX7_init_5 (by decide) ?_
  refine z_newa (atype := .int) (ty := .int) (a0 := (8, .inl (fun _ => 0))) hx hb hts (show Cond.arrayClass .int ∈ wsX7_init by decide +kernel) rfl z (fun _ => rfl) (by decide) (by decide) (by decide) (cells' := 1) (slots' := 8) (Nat.le_of_ble_eq_true rfl) (Nat.le_of_ble_eq_true rfl) rfl rfl dX7_init_7 (fun q_1 cA_2 H z => ?_)
  have z : zw D [(h0, .inr (7, [.int 0, .int 0, .int 0, .int 0, .int 0, .int 0, .null, .null, .long 0, .long 0, .long 0])), (q_1, .inl (cA_2, 8, .inl (fun _ => 0)))] [(cA_2, .int)] A s.heap s H locs := z
  refine z_putF (v := .ref q_1) (C := RX7) (T := TX7) (N := 11) hx hb hts hiX7 tyX7 tyX7_ok nmX7 hown hin z 0 rfl rfl 6 (by decide) (show Cond.fieldLink RX7 9 "GainTrees$Split" "sizes" "[I" ∈ wsX7_init by decide +kernel) rfl rfl rfl rfl rfl (Nat.le_of_ble_eq_true rfl) dX7_init_9 (fun H locs z => ?_)
  have z : zw D [(h0, .inr (7, [.int 0, .int 0, .int 0, .int 0, .int 0, .int 0, .ref q_1, .null, .long 0, .long 0, .long 0])), (q_1, .inl (cA_2, 8, .inl (fun _ => 0)))] [(cA_2, .int)] A s.heap s H locs := z
  refine lv_aload_n hx hb dX7_init_12 rfl (lv_at hl 0 rfl) ?_
  refine lv_bipush (v := 48) hx hb dX7_init_13 (by decide) ?_
  refine z_newa (atype := .int) (ty := .int) (a0 := (48, .inl (fun _ => 0))) hx hb hts (show Cond.arrayClass .int ∈ wsX7_init by decide +kernel) rfl z (fun _ => rfl) (by decide) (by decide) (by decide) (cells' := 2) (slots' := 56) (Nat.le_of_ble_eq_true rfl) (Nat.le_of_ble_eq_true rfl) rfl rfl dX7_init_15 (fun q_3 cA_4 H z => ?_)
  have z : zw D [(h0, .inr (7, [.int 0, .int 0, .int 0, .int 0, .int 0, .int 0, .ref q_1, .null, .long 0, .long 0, .long 0])), (q_1, .inl (cA_2, 8, .inl (fun _ => 0))), (q_3, .inl (cA_4, 48, .inl (fun _ => 0)))] [(cA_2, .int), (cA_4, .int)] A s.heap s H locs := z
  refine z_putF (v := .ref q_3) (C := RX7) (T := TX7) (N := 11) hx hb hts hiX7 tyX7 tyX7_ok nmX7 hown hin z 0 rfl rfl 7 (by decide) (show Cond.fieldLink RX7 15 "GainTrees$Split" "counts" "[I" ∈ wsX7_init by decide +kernel) rfl rfl rfl rfl rfl (Nat.le_of_ble_eq_true rfl) dX7_init_17 (fun H locs z => ?_)
  have z : zw D [(h0, .inr (7, [.int 0, .int 0, .int 0, .int 0, .int 0, .int 0, .ref q_1, .ref q_3, .long 0, .long 0, .long 0])), (q_1, .inl (cA_2, 8, .inl (fun _ => 0))), (q_3, .inl (cA_4, 48, .inl (fun _ => 0)))] [(cA_2, .int), (cA_4, .int)] A s.heap s H locs := z
  exact z_vret hx hb hr hlocks z (fun t h => ⟨q_1, q_3, h.sub [0] [] (by decide) rfl rfl⟩) (Nat.le_of_ble_eq_true rfl) (Nat.le_of_ble_eq_true rfl) dX7_init_20

set_option maxHeartbeats 4000000 in
set_option maxRecDepth 100000 in
/-- Product() -/
theorem c_X3_init (l : Launch) (D : va_G) (sz : Nat) (h0 : Nat) : Met l yX3_init wsX3_init ({ frames := 1, cells := 1, slots := 900, locals := 20 }) (va_Pc [.ref h0] (zI D [(h0, .inr (3, [.null, .int 0]))] [] sz)) (va_Qv (fun (_ : Unit) => True) (fun _ t => zB D (va_A [(h0, .inr (3, [.null, .int 0]))] sz) [] [] t) (va_A [(h0, .inr (3, [.null, .int 0]))] sz)) 1 900 (va_A [(h0, .inr (3, [.null, .int 0]))] sz) := by
  refine Met.ofW (cc := cX3_init) (maxL := 1) (ret := none) (by decide) rfl ?_
  intro p e s m args below meth c s₁ B hml hv
  obtain ⟨rfl, hv⟩ := hv
  have hx := B.exec
  have hb := B.bytes
  have hr := B.returns
  have hts := atoms_spec (ws := wsX3_init) B.pre
  have hown : s.vm.findClass RX3 = some m.cls := findClass_of_methodNamed B.named
  have hlocks := B.notSynchronized
  have hiX3 : ∀ w ∈ u_ws RX3 TX3 2, w ∈ wsX3_init := (fun _ h => List.mem_cons_of_mem _ (List.mem_append_right _ h))
  have hin : meth.name = "<init>" := (name_of_methodNamed B.named B.method).1
  obtain ⟨hsz, z⟩ := hv.start
  clear hv
  subst hsz
  generalize va_A [(h0, .inr (3, [.null, .int 0]))] s.heap.size = A at z ⊢
  have hl := lv_entry ([.ref h0]) (n := 1) (Nat.le_of_ble_eq_true rfl)
  rw [lg_entry_eq]
  generalize (lg_sl ([.ref h0]) ++ List.replicate (1 - (lg_sl ([.ref h0])).length) Slot.unset).toArray = ls at hl ⊢
  have hl : lv_has ls 1 [(0, .ref h0)] := hl
  refine z_begin z (fun H locs z => ?_)
  refine lv_aload_n hx hb dX3_init_0 rfl (lv_at hl 0 rfl) ?_
  refine W.objInit hx hb hown (hts (.methodLink RX3 3 objectInit) (by decide +kernel)) (hts (.instanceMethod objectInit) (by decide +kernel)) (hts (.code objectInit ⟨#[0xb1]⟩ 1 none) (by decide +kernel)) rfl (by rw [hml]; exact hl.1) rfl dX3_init_1 (Nat.le_of_ble_eq_true rfl) (Nat.le_of_ble_eq_true rfl) ?_
  refine W.eq (g2 := F0 m 4 ls []) rfl ?_
  refine lv_aload_n hx hb dX3_init_4 rfl (lv_at hl 0 rfl) ?_
  refine lv_sipush (v := 900) hx hb dX3_init_5 (by decide) ?_
  refine z_newa (atype := .int) (ty := .int) (a0 := (900, .inl (fun _ => 0))) hx hb hts (show Cond.arrayClass .int ∈ wsX3_init by decide +kernel) rfl z (fun _ => rfl) (by decide) (by decide) (by decide) (cells' := 1) (slots' := 900) (Nat.le_of_ble_eq_true rfl) (Nat.le_of_ble_eq_true rfl) rfl rfl dX3_init_8 (fun q_1 cA_2 H z => ?_)
  have z : zw D [(h0, .inr (3, [.null, .int 0])), (q_1, .inl (cA_2, 900, .inl (fun _ => 0)))] [(cA_2, .int)] A s.heap s H locs := z
  refine z_putF (v := .ref q_1) (C := RX3) (T := TX3) (N := 2) hx hb hts hiX3 tyX3 tyX3_ok nmX3 hown hin z 0 rfl rfl 0 (by decide) (show Cond.fieldLink RX3 9 "GainTrees$Product" "limbs" "[I" ∈ wsX3_init by decide +kernel) rfl rfl rfl rfl rfl (Nat.le_of_ble_eq_true rfl) dX3_init_10 (fun H locs z => ?_)
  have z : zw D [(h0, .inr (3, [.ref q_1, .int 0])), (q_1, .inl (cA_2, 900, .inl (fun _ => 0)))] [(cA_2, .int)] A s.heap s H locs := z
  exact z_vret hx hb hr hlocks z (fun t h => h.sub [] [] (by decide) rfl rfl) (Nat.le_of_ble_eq_true rfl) (Nat.le_of_ble_eq_true rfl) dX3_init_13

set_option maxHeartbeats 4000000 in
set_option maxRecDepth 100000 in
/-- Tree() -/
theorem c_X9_init (l : Launch) (D : va_G) (sz : Nat) (gw : Nat) : Met l yX9_init wsX9_init ({ frames := 1, cells := 13, slots := 28800, locals := 20 }) (va_Pc [.ref gw] (zI D [(gw, .inr (9, [.null, .null, .null, .null, .null, .null, .null, .null, .null, .null, .null, .null, .null, .int 0]))] [] sz)) (va_Qv (fun (_ : Unit) => True) (fun _ t => ∃ gw_0 : Nat, ∃ gw_1 : Nat, ∃ gw_2 : Nat, ∃ gw_3 : Nat, ∃ gw_4 : Nat, ∃ gw_5 : Nat, ∃ gw_6 : Nat, ∃ gw_7 : Nat, ∃ gw_8 : Nat, ∃ gw_9 : Nat, ∃ gw_10 : Nat, ∃ gw_11 : Nat, ∃ gw_12 : Nat, zB D (va_A [(gw, .inr (9, [.null, .null, .null, .null, .null, .null, .null, .null, .null, .null, .null, .null, .null, .int 0]))] sz) [(gw, .inr (9, [.ref gw_0, .ref gw_1, .ref gw_2, .ref gw_3, .ref gw_4, .ref gw_5, .ref gw_6, .ref gw_7, .ref gw_8, .ref gw_9, .ref gw_10, .ref gw_11, .ref gw_12, .int 0]))] [] t) (va_A [(gw, .inr (9, [.null, .null, .null, .null, .null, .null, .null, .null, .null, .null, .null, .null, .null, .int 0]))] sz)) 13 28800 (va_A [(gw, .inr (9, [.null, .null, .null, .null, .null, .null, .null, .null, .null, .null, .null, .null, .null, .int 0]))] sz) := by
  refine Met.ofW (cc := cX9_init) (maxL := 1) (ret := none) (by decide) rfl ?_
  intro p e s m args below meth c s₁ B hml hv
  obtain ⟨rfl, hv⟩ := hv
  have hx := B.exec
  have hb := B.bytes
  have hr := B.returns
  have hts := atoms_spec (ws := wsX9_init) B.pre
  have hown : s.vm.findClass RX9 = some m.cls := findClass_of_methodNamed B.named
  have hlocks := B.notSynchronized
  have hiX9 : ∀ w ∈ u_ws RX9 TX9 14, w ∈ wsX9_init := (fun _ h => List.mem_cons_of_mem _ (List.mem_append_right _ h))
  have hin : meth.name = "<init>" := (name_of_methodNamed B.named B.method).1
  obtain ⟨hsz, z⟩ := hv.start
  clear hv
  subst hsz
  generalize va_A [(gw, .inr (9, [.null, .null, .null, .null, .null, .null, .null, .null, .null, .null, .null, .null, .null, .int 0]))] s.heap.size = A at z ⊢
  have hl := lv_entry ([.ref gw]) (n := 1) (Nat.le_of_ble_eq_true rfl)
  rw [lg_entry_eq]
  generalize (lg_sl ([.ref gw]) ++ List.replicate (1 - (lg_sl ([.ref gw])).length) Slot.unset).toArray = ls at hl ⊢
  have hl : lv_has ls 1 [(0, .ref gw)] := hl
  refine z_begin z (fun H locs z => ?_)
  refine lv_aload_n hx hb dX9_init_0 rfl (lv_at hl 0 rfl) ?_
  refine W.objInit hx hb hown (hts (.methodLink RX9 3 objectInit) (by decide +kernel)) (hts (.instanceMethod objectInit) (by decide +kernel)) (hts (.code objectInit ⟨#[0xb1]⟩ 1 none) (by decide +kernel)) rfl (by rw [hml]; exact hl.1) rfl dX9_init_1 (Nat.le_of_ble_eq_true rfl) (Nat.le_of_ble_eq_true rfl) ?_
  refine W.eq (g2 := F0 m 4 ls []) rfl ?_
  refine lv_aload_n hx hb dX9_init_4 rfl (lv_at hl 0 rfl) ?_
  refine lv_sipush (v := 1600) hx hb dX9_init_5 (by decide) ?_
  refine z_newa (atype := .int) (ty := .int) (a0 := (1600, .inl (fun _ => 0))) hx hb hts (show Cond.arrayClass .int ∈ wsX9_init by decide +kernel) rfl z (fun _ => rfl) (by decide) (by decide) (by decide) (cells' := 1) (slots' := 1600) (Nat.le_of_ble_eq_true rfl) (Nat.le_of_ble_eq_true rfl) rfl rfl dX9_init_8 (fun q_1 cA_2 H z => ?_)
  have z : zw D [(gw, .inr (9, [.null, .null, .null, .null, .null, .null, .null, .null, .null, .null, .null, .null, .null, .int 0])), (q_1, .inl (cA_2, 1600, .inl (fun _ => 0)))] [(cA_2, .int)] A s.heap s H locs := z
  refine z_putF (v := .ref q_1) (C := RX9) (T := TX9) (N := 14) hx hb hts hiX9 tyX9 tyX9_ok nmX9 hown hin z 0 rfl rfl 0 (by decide) (show Cond.fieldLink RX9 9 "GainTrees$Tree" "attribute" "[I" ∈ wsX9_init by decide +kernel) rfl rfl rfl rfl rfl (Nat.le_of_ble_eq_true rfl) dX9_init_10 (fun H locs z => ?_)
  have z : zw D [(gw, .inr (9, [.ref q_1, .null, .null, .null, .null, .null, .null, .null, .null, .null, .null, .null, .null, .int 0])), (q_1, .inl (cA_2, 1600, .inl (fun _ => 0)))] [(cA_2, .int)] A s.heap s H locs := z
  refine lv_aload_n hx hb dX9_init_13 rfl (lv_at hl 0 rfl) ?_
  refine lv_sipush (v := 1600) hx hb dX9_init_14 (by decide) ?_
  refine z_newa (atype := .int) (ty := .int) (a0 := (1600, .inl (fun _ => 0))) hx hb hts (show Cond.arrayClass .int ∈ wsX9_init by decide +kernel) rfl z (fun _ => rfl) (by decide) (by decide) (by decide) (cells' := 2) (slots' := 3200) (Nat.le_of_ble_eq_true rfl) (Nat.le_of_ble_eq_true rfl) rfl rfl dX9_init_17 (fun q_3 cA_4 H z => ?_)
  have z : zw D [(gw, .inr (9, [.ref q_1, .null, .null, .null, .null, .null, .null, .null, .null, .null, .null, .null, .null, .int 0])), (q_1, .inl (cA_2, 1600, .inl (fun _ => 0))), (q_3, .inl (cA_4, 1600, .inl (fun _ => 0)))] [(cA_2, .int), (cA_4, .int)] A s.heap s H locs := z
  refine z_putF (v := .ref q_3) (C := RX9) (T := TX9) (N := 14) hx hb hts hiX9 tyX9 tyX9_ok nmX9 hown hin z 0 rfl rfl 1 (by decide) (show Cond.fieldLink RX9 15 "GainTrees$Tree" "cut" "[I" ∈ wsX9_init by decide +kernel) rfl rfl rfl rfl rfl (Nat.le_of_ble_eq_true rfl) dX9_init_19 (fun H locs z => ?_)
  have z : zw D [(gw, .inr (9, [.ref q_1, .ref q_3, .null, .null, .null, .null, .null, .null, .null, .null, .null, .null, .null, .int 0])), (q_1, .inl (cA_2, 1600, .inl (fun _ => 0))), (q_3, .inl (cA_4, 1600, .inl (fun _ => 0)))] [(cA_2, .int), (cA_4, .int)] A s.heap s H locs := z
  refine lv_aload_n hx hb dX9_init_22 rfl (lv_at hl 0 rfl) ?_
  refine lv_sipush (v := 1600) hx hb dX9_init_23 (by decide) ?_
  refine z_newa (atype := .boolean) (ty := .boolean) (a0 := (1600, .inl (fun _ => 0))) hx hb hts (show Cond.arrayClass .boolean ∈ wsX9_init by decide +kernel) rfl z (fun _ => rfl) (by decide) (by decide) (by decide) (cells' := 3) (slots' := 4800) (Nat.le_of_ble_eq_true rfl) (Nat.le_of_ble_eq_true rfl) rfl rfl dX9_init_26 (fun q_5 cA_6 H z => ?_)
  have z : zw D [(gw, .inr (9, [.ref q_1, .ref q_3, .null, .null, .null, .null, .null, .null, .null, .null, .null, .null, .null, .int 0])), (q_1, .inl (cA_2, 1600, .inl (fun _ => 0))), (q_3, .inl (cA_4, 1600, .inl (fun _ => 0))), (q_5, .inl (cA_6, 1600, .inl (fun _ => 0)))] [(cA_2, .int), (cA_4, .int), (cA_6, .boolean)] A s.heap s H locs := z
  refine z_putF (v := .ref q_5) (C := RX9) (T := TX9) (N := 14) hx hb hts hiX9 tyX9 tyX9_ok nmX9 hown hin z 0 rfl rfl 2 (by decide) (show Cond.fieldLink RX9 18 "GainTrees$Tree" "byCut" "[Z" ∈ wsX9_init by decide +kernel) rfl rfl rfl rfl rfl (Nat.le_of_ble_eq_true rfl) dX9_init_28 (fun H locs z => ?_)
  have z : zw D [(gw, .inr (9, [.ref q_1, .ref q_3, .ref q_5, .null, .null, .null, .null, .null, .null, .null, .null, .null, .null, .int 0])), (q_1, .inl (cA_2, 1600, .inl (fun _ => 0))), (q_3, .inl (cA_4, 1600, .inl (fun _ => 0))), (q_5, .inl (cA_6, 1600, .inl (fun _ => 0)))] [(cA_2, .int), (cA_4, .int), (cA_6, .boolean)] A s.heap s H locs := z
  refine lv_aload_n hx hb dX9_init_31 rfl (lv_at hl 0 rfl) ?_
  refine lv_sipush (v := 1600) hx hb dX9_init_32 (by decide) ?_
  refine z_newa (atype := .int) (ty := .int) (a0 := (1600, .inl (fun _ => 0))) hx hb hts (show Cond.arrayClass .int ∈ wsX9_init by decide +kernel) rfl z (fun _ => rfl) (by decide) (by decide) (by decide) (cells' := 4) (slots' := 6400) (Nat.le_of_ble_eq_true rfl) (Nat.le_of_ble_eq_true rfl) rfl rfl dX9_init_35 (fun q_7 cA_8 H z => ?_)
  have z : zw D [(gw, .inr (9, [.ref q_1, .ref q_3, .ref q_5, .null, .null, .null, .null, .null, .null, .null, .null, .null, .null, .int 0])), (q_1, .inl (cA_2, 1600, .inl (fun _ => 0))), (q_3, .inl (cA_4, 1600, .inl (fun _ => 0))), (q_5, .inl (cA_6, 1600, .inl (fun _ => 0))), (q_7, .inl (cA_8, 1600, .inl (fun _ => 0)))] [(cA_2, .int), (cA_4, .int), (cA_6, .boolean), (cA_8, .int)] A s.heap s H locs := z
  refine z_putF (v := .ref q_7) (C := RX9) (T := TX9) (N := 14) hx hb hts hiX9 tyX9 tyX9_ok nmX9 hown hin z 0 rfl rfl 3 (by decide) (show Cond.fieldLink RX9 22 "GainTrees$Tree" "result" "[I" ∈ wsX9_init by decide +kernel) rfl rfl rfl rfl rfl (Nat.le_of_ble_eq_true rfl) dX9_init_37 (fun H locs z => ?_)
  have z : zw D [(gw, .inr (9, [.ref q_1, .ref q_3, .ref q_5, .ref q_7, .null, .null, .null, .null, .null, .null, .null, .null, .null, .int 0])), (q_1, .inl (cA_2, 1600, .inl (fun _ => 0))), (q_3, .inl (cA_4, 1600, .inl (fun _ => 0))), (q_5, .inl (cA_6, 1600, .inl (fun _ => 0))), (q_7, .inl (cA_8, 1600, .inl (fun _ => 0)))] [(cA_2, .int), (cA_4, .int), (cA_6, .boolean), (cA_8, .int)] A s.heap s H locs := z
  refine lv_aload_n hx hb dX9_init_40 rfl (lv_at hl 0 rfl) ?_
  refine lv_sipush (v := 1600) hx hb dX9_init_41 (by decide) ?_
  refine z_newa (atype := .int) (ty := .int) (a0 := (1600, .inl (fun _ => 0))) hx hb hts (show Cond.arrayClass .int ∈ wsX9_init by decide +kernel) rfl z (fun _ => rfl) (by decide) (by decide) (by decide) (cells' := 5) (slots' := 8000) (Nat.le_of_ble_eq_true rfl) (Nat.le_of_ble_eq_true rfl) rfl rfl dX9_init_44 (fun q_9 cA_10 H z => ?_)
  have z : zw D [(gw, .inr (9, [.ref q_1, .ref q_3, .ref q_5, .ref q_7, .null, .null, .null, .null, .null, .null, .null, .null, .null, .int 0])), (q_1, .inl (cA_2, 1600, .inl (fun _ => 0))), (q_3, .inl (cA_4, 1600, .inl (fun _ => 0))), (q_5, .inl (cA_6, 1600, .inl (fun _ => 0))), (q_7, .inl (cA_8, 1600, .inl (fun _ => 0))), (q_9, .inl (cA_10, 1600, .inl (fun _ => 0)))] [(cA_2, .int), (cA_4, .int), (cA_6, .boolean), (cA_8, .int), (cA_10, .int)] A s.heap s H locs := z
  refine z_putF (v := .ref q_9) (C := RX9) (T := TX9) (N := 14) hx hb hts hiX9 tyX9 tyX9_ok nmX9 hown hin z 0 rfl rfl 4 (by decide) (show Cond.fieldLink RX9 25 "GainTrees$Tree" "amount" "[I" ∈ wsX9_init by decide +kernel) rfl rfl rfl rfl rfl (Nat.le_of_ble_eq_true rfl) dX9_init_46 (fun H locs z => ?_)
  have z : zw D [(gw, .inr (9, [.ref q_1, .ref q_3, .ref q_5, .ref q_7, .ref q_9, .null, .null, .null, .null, .null, .null, .null, .null, .int 0])), (q_1, .inl (cA_2, 1600, .inl (fun _ => 0))), (q_3, .inl (cA_4, 1600, .inl (fun _ => 0))), (q_5, .inl (cA_6, 1600, .inl (fun _ => 0))), (q_7, .inl (cA_8, 1600, .inl (fun _ => 0))), (q_9, .inl (cA_10, 1600, .inl (fun _ => 0)))] [(cA_2, .int), (cA_4, .int), (cA_6, .boolean), (cA_8, .int), (cA_10, .int)] A s.heap s H locs := z
  refine lv_aload_n hx hb dX9_init_49 rfl (lv_at hl 0 rfl) ?_
  refine lv_sipush (v := 1600) hx hb dX9_init_50 (by decide) ?_
  refine z_newa (atype := .int) (ty := .int) (a0 := (1600, .inl (fun _ => 0))) hx hb hts (show Cond.arrayClass .int ∈ wsX9_init by decide +kernel) rfl z (fun _ => rfl) (by decide) (by decide) (by decide) (cells' := 6) (slots' := 9600) (Nat.le_of_ble_eq_true rfl) (Nat.le_of_ble_eq_true rfl) rfl rfl dX9_init_53 (fun q_11 cA_12 H z => ?_)
  have z : zw D [(gw, .inr (9, [.ref q_1, .ref q_3, .ref q_5, .ref q_7, .ref q_9, .null, .null, .null, .null, .null, .null, .null, .null, .int 0])), (q_1, .inl (cA_2, 1600, .inl (fun _ => 0))), (q_3, .inl (cA_4, 1600, .inl (fun _ => 0))), (q_5, .inl (cA_6, 1600, .inl (fun _ => 0))), (q_7, .inl (cA_8, 1600, .inl (fun _ => 0))), (q_9, .inl (cA_10, 1600, .inl (fun _ => 0))), (q_11, .inl (cA_12, 1600, .inl (fun _ => 0)))] [(cA_2, .int), (cA_4, .int), (cA_6, .boolean), (cA_8, .int), (cA_10, .int), (cA_12, .int)] A s.heap s H locs := z
  refine z_putF (v := .ref q_11) (C := RX9) (T := TX9) (N := 14) hx hb hts hiX9 tyX9 tyX9_ok nmX9 hown hin z 0 rfl rfl 5 (by decide) (show Cond.fieldLink RX9 28 "GainTrees$Tree" "kids" "[I" ∈ wsX9_init by decide +kernel) rfl rfl rfl rfl rfl (Nat.le_of_ble_eq_true rfl) dX9_init_55 (fun H locs z => ?_)
  have z : zw D [(gw, .inr (9, [.ref q_1, .ref q_3, .ref q_5, .ref q_7, .ref q_9, .ref q_11, .null, .null, .null, .null, .null, .null, .null, .int 0])), (q_1, .inl (cA_2, 1600, .inl (fun _ => 0))), (q_3, .inl (cA_4, 1600, .inl (fun _ => 0))), (q_5, .inl (cA_6, 1600, .inl (fun _ => 0))), (q_7, .inl (cA_8, 1600, .inl (fun _ => 0))), (q_9, .inl (cA_10, 1600, .inl (fun _ => 0))), (q_11, .inl (cA_12, 1600, .inl (fun _ => 0)))] [(cA_2, .int), (cA_4, .int), (cA_6, .boolean), (cA_8, .int), (cA_10, .int), (cA_12, .int)] A s.heap s H locs := z
  refine lv_aload_n hx hb dX9_init_58 rfl (lv_at hl 0 rfl) ?_
  refine lv_sipush (v := 1600) hx hb dX9_init_59 (by decide) ?_
  refine z_newa (atype := .int) (ty := .int) (a0 := (1600, .inl (fun _ => 0))) hx hb hts (show Cond.arrayClass .int ∈ wsX9_init by decide +kernel) rfl z (fun _ => rfl) (by decide) (by decide) (by decide) (cells' := 7) (slots' := 11200) (Nat.le_of_ble_eq_true rfl) (Nat.le_of_ble_eq_true rfl) rfl rfl dX9_init_62 (fun q_13 cA_14 H z => ?_)
  have z : zw D [(gw, .inr (9, [.ref q_1, .ref q_3, .ref q_5, .ref q_7, .ref q_9, .ref q_11, .null, .null, .null, .null, .null, .null, .null, .int 0])), (q_1, .inl (cA_2, 1600, .inl (fun _ => 0))), (q_3, .inl (cA_4, 1600, .inl (fun _ => 0))), (q_5, .inl (cA_6, 1600, .inl (fun _ => 0))), (q_7, .inl (cA_8, 1600, .inl (fun _ => 0))), (q_9, .inl (cA_10, 1600, .inl (fun _ => 0))), (q_11, .inl (cA_12, 1600, .inl (fun _ => 0))), (q_13, .inl (cA_14, 1600, .inl (fun _ => 0)))] [(cA_2, .int), (cA_4, .int), (cA_6, .boolean), (cA_8, .int), (cA_10, .int), (cA_12, .int), (cA_14, .int)] A s.heap s H locs := z
  refine z_putF (v := .ref q_13) (C := RX9) (T := TX9) (N := 14) hx hb hts hiX9 tyX9 tyX9_ok nmX9 hown hin z 0 rfl rfl 6 (by decide) (show Cond.fieldLink RX9 31 "GainTrees$Tree" "depth" "[I" ∈ wsX9_init by decide +kernel) rfl rfl rfl rfl rfl (Nat.le_of_ble_eq_true rfl) dX9_init_64 (fun H locs z => ?_)
  have z : zw D [(gw, .inr (9, [.ref q_1, .ref q_3, .ref q_5, .ref q_7, .ref q_9, .ref q_11, .ref q_13, .null, .null, .null, .null, .null, .null, .int 0])), (q_1, .inl (cA_2, 1600, .inl (fun _ => 0))), (q_3, .inl (cA_4, 1600, .inl (fun _ => 0))), (q_5, .inl (cA_6, 1600, .inl (fun _ => 0))), (q_7, .inl (cA_8, 1600, .inl (fun _ => 0))), (q_9, .inl (cA_10, 1600, .inl (fun _ => 0))), (q_11, .inl (cA_12, 1600, .inl (fun _ => 0))), (q_13, .inl (cA_14, 1600, .inl (fun _ => 0)))] [(cA_2, .int), (cA_4, .int), (cA_6, .boolean), (cA_8, .int), (cA_10, .int), (cA_12, .int), (cA_14, .int)] A s.heap s H locs := z
  refine lv_aload_n hx hb dX9_init_67 rfl (lv_at hl 0 rfl) ?_
  refine lv_sipush (v := 1600) hx hb dX9_init_68 (by decide) ?_
  refine z_newa (atype := .int) (ty := .int) (a0 := (1600, .inl (fun _ => 0))) hx hb hts (show Cond.arrayClass .int ∈ wsX9_init by decide +kernel) rfl z (fun _ => rfl) (by decide) (by decide) (by decide) (cells' := 8) (slots' := 12800) (Nat.le_of_ble_eq_true rfl) (Nat.le_of_ble_eq_true rfl) rfl rfl dX9_init_71 (fun q_15 cA_16 H z => ?_)
  have z : zw D [(gw, .inr (9, [.ref q_1, .ref q_3, .ref q_5, .ref q_7, .ref q_9, .ref q_11, .ref q_13, .null, .null, .null, .null, .null, .null, .int 0])), (q_1, .inl (cA_2, 1600, .inl (fun _ => 0))), (q_3, .inl (cA_4, 1600, .inl (fun _ => 0))), (q_5, .inl (cA_6, 1600, .inl (fun _ => 0))), (q_7, .inl (cA_8, 1600, .inl (fun _ => 0))), (q_9, .inl (cA_10, 1600, .inl (fun _ => 0))), (q_11, .inl (cA_12, 1600, .inl (fun _ => 0))), (q_13, .inl (cA_14, 1600, .inl (fun _ => 0))), (q_15, .inl (cA_16, 1600, .inl (fun _ => 0)))] [(cA_2, .int), (cA_4, .int), (cA_6, .boolean), (cA_8, .int), (cA_10, .int), (cA_12, .int), (cA_14, .int), (cA_16, .int)] A s.heap s H locs := z
  refine z_putF (v := .ref q_15) (C := RX9) (T := TX9) (N := 14) hx hb hts hiX9 tyX9 tyX9_ok nmX9 hown hin z 0 rfl rfl 7 (by decide) (show Cond.fieldLink RX9 34 "GainTrees$Tree" "parent" "[I" ∈ wsX9_init by decide +kernel) rfl rfl rfl rfl rfl (Nat.le_of_ble_eq_true rfl) dX9_init_73 (fun H locs z => ?_)
  have z : zw D [(gw, .inr (9, [.ref q_1, .ref q_3, .ref q_5, .ref q_7, .ref q_9, .ref q_11, .ref q_13, .ref q_15, .null, .null, .null, .null, .null, .int 0])), (q_1, .inl (cA_2, 1600, .inl (fun _ => 0))), (q_3, .inl (cA_4, 1600, .inl (fun _ => 0))), (q_5, .inl (cA_6, 1600, .inl (fun _ => 0))), (q_7, .inl (cA_8, 1600, .inl (fun _ => 0))), (q_9, .inl (cA_10, 1600, .inl (fun _ => 0))), (q_11, .inl (cA_12, 1600, .inl (fun _ => 0))), (q_13, .inl (cA_14, 1600, .inl (fun _ => 0))), (q_15, .inl (cA_16, 1600, .inl (fun _ => 0)))] [(cA_2, .int), (cA_4, .int), (cA_6, .boolean), (cA_8, .int), (cA_10, .int), (cA_12, .int), (cA_14, .int), (cA_16, .int)] A s.heap s H locs := z
  refine lv_aload_n hx hb dX9_init_76 rfl (lv_at hl 0 rfl) ?_
  refine lv_sipush (v := 1600) hx hb dX9_init_77 (by decide) ?_
  refine z_newa (atype := .int) (ty := .int) (a0 := (1600, .inl (fun _ => 0))) hx hb hts (show Cond.arrayClass .int ∈ wsX9_init by decide +kernel) rfl z (fun _ => rfl) (by decide) (by decide) (by decide) (cells' := 9) (slots' := 14400) (Nat.le_of_ble_eq_true rfl) (Nat.le_of_ble_eq_true rfl) rfl rfl dX9_init_80 (fun q_17 cA_18 H z => ?_)
  have z : zw D [(gw, .inr (9, [.ref q_1, .ref q_3, .ref q_5, .ref q_7, .ref q_9, .ref q_11, .ref q_13, .ref q_15, .null, .null, .null, .null, .null, .int 0])), (q_1, .inl (cA_2, 1600, .inl (fun _ => 0))), (q_3, .inl (cA_4, 1600, .inl (fun _ => 0))), (q_5, .inl (cA_6, 1600, .inl (fun _ => 0))), (q_7, .inl (cA_8, 1600, .inl (fun _ => 0))), (q_9, .inl (cA_10, 1600, .inl (fun _ => 0))), (q_11, .inl (cA_12, 1600, .inl (fun _ => 0))), (q_13, .inl (cA_14, 1600, .inl (fun _ => 0))), (q_15, .inl (cA_16, 1600, .inl (fun _ => 0))), (q_17, .inl (cA_18, 1600, .inl (fun _ => 0)))] [(cA_2, .int), (cA_4, .int), (cA_6, .boolean), (cA_8, .int), (cA_10, .int), (cA_12, .int), (cA_14, .int), (cA_16, .int), (cA_18, .int)] A s.heap s H locs := z
  refine z_putF (v := .ref q_17) (C := RX9) (T := TX9) (N := 14) hx hb hts hiX9 tyX9 tyX9_ok nmX9 hown hin z 0 rfl rfl 8 (by decide) (show Cond.fieldLink RX9 37 "GainTrees$Tree" "place" "[I" ∈ wsX9_init by decide +kernel) rfl rfl rfl rfl rfl (Nat.le_of_ble_eq_true rfl) dX9_init_82 (fun H locs z => ?_)
  have z : zw D [(gw, .inr (9, [.ref q_1, .ref q_3, .ref q_5, .ref q_7, .ref q_9, .ref q_11, .ref q_13, .ref q_15, .ref q_17, .null, .null, .null, .null, .int 0])), (q_1, .inl (cA_2, 1600, .inl (fun _ => 0))), (q_3, .inl (cA_4, 1600, .inl (fun _ => 0))), (q_5, .inl (cA_6, 1600, .inl (fun _ => 0))), (q_7, .inl (cA_8, 1600, .inl (fun _ => 0))), (q_9, .inl (cA_10, 1600, .inl (fun _ => 0))), (q_11, .inl (cA_12, 1600, .inl (fun _ => 0))), (q_13, .inl (cA_14, 1600, .inl (fun _ => 0))), (q_15, .inl (cA_16, 1600, .inl (fun _ => 0))), (q_17, .inl (cA_18, 1600, .inl (fun _ => 0)))] [(cA_2, .int), (cA_4, .int), (cA_6, .boolean), (cA_8, .int), (cA_10, .int), (cA_12, .int), (cA_14, .int), (cA_16, .int), (cA_18, .int)] A s.heap s H locs := z
  refine lv_aload_n hx hb dX9_init_85 rfl (lv_at hl 0 rfl) ?_
  refine lv_sipush (v := 9600) hx hb dX9_init_86 (by decide) ?_
  refine z_newa (atype := .int) (ty := .int) (a0 := (9600, .inl (fun _ => 0))) hx hb hts (show Cond.arrayClass .int ∈ wsX9_init by decide +kernel) rfl z (fun _ => rfl) (by decide) (by decide) (by decide) (cells' := 10) (slots' := 24000) (Nat.le_of_ble_eq_true rfl) (Nat.le_of_ble_eq_true rfl) rfl rfl dX9_init_89 (fun q_19 cA_20 H z => ?_)
  have z : zw D [(gw, .inr (9, [.ref q_1, .ref q_3, .ref q_5, .ref q_7, .ref q_9, .ref q_11, .ref q_13, .ref q_15, .ref q_17, .null, .null, .null, .null, .int 0])), (q_1, .inl (cA_2, 1600, .inl (fun _ => 0))), (q_3, .inl (cA_4, 1600, .inl (fun _ => 0))), (q_5, .inl (cA_6, 1600, .inl (fun _ => 0))), (q_7, .inl (cA_8, 1600, .inl (fun _ => 0))), (q_9, .inl (cA_10, 1600, .inl (fun _ => 0))), (q_11, .inl (cA_12, 1600, .inl (fun _ => 0))), (q_13, .inl (cA_14, 1600, .inl (fun _ => 0))), (q_15, .inl (cA_16, 1600, .inl (fun _ => 0))), (q_17, .inl (cA_18, 1600, .inl (fun _ => 0))), (q_19, .inl (cA_20, 9600, .inl (fun _ => 0)))] [(cA_2, .int), (cA_4, .int), (cA_6, .boolean), (cA_8, .int), (cA_10, .int), (cA_12, .int), (cA_14, .int), (cA_16, .int), (cA_18, .int), (cA_20, .int)] A s.heap s H locs := z
  refine z_putF (v := .ref q_19) (C := RX9) (T := TX9) (N := 14) hx hb hts hiX9 tyX9 tyX9_ok nmX9 hown hin z 0 rfl rfl 9 (by decide) (show Cond.fieldLink RX9 40 "GainTrees$Tree" "counts" "[I" ∈ wsX9_init by decide +kernel) rfl rfl rfl rfl rfl (Nat.le_of_ble_eq_true rfl) dX9_init_91 (fun H locs z => ?_)
  have z : zw D [(gw, .inr (9, [.ref q_1, .ref q_3, .ref q_5, .ref q_7, .ref q_9, .ref q_11, .ref q_13, .ref q_15, .ref q_17, .ref q_19, .null, .null, .null, .int 0])), (q_1, .inl (cA_2, 1600, .inl (fun _ => 0))), (q_3, .inl (cA_4, 1600, .inl (fun _ => 0))), (q_5, .inl (cA_6, 1600, .inl (fun _ => 0))), (q_7, .inl (cA_8, 1600, .inl (fun _ => 0))), (q_9, .inl (cA_10, 1600, .inl (fun _ => 0))), (q_11, .inl (cA_12, 1600, .inl (fun _ => 0))), (q_13, .inl (cA_14, 1600, .inl (fun _ => 0))), (q_15, .inl (cA_16, 1600, .inl (fun _ => 0))), (q_17, .inl (cA_18, 1600, .inl (fun _ => 0))), (q_19, .inl (cA_20, 9600, .inl (fun _ => 0)))] [(cA_2, .int), (cA_4, .int), (cA_6, .boolean), (cA_8, .int), (cA_10, .int), (cA_12, .int), (cA_14, .int), (cA_16, .int), (cA_18, .int), (cA_20, .int)] A s.heap s H locs := z
  refine lv_aload_n hx hb dX9_init_94 rfl (lv_at hl 0 rfl) ?_
  refine lv_sipush (v := 1600) hx hb dX9_init_95 (by decide) ?_
  refine z_newa (atype := .int) (ty := .int) (a0 := (1600, .inl (fun _ => 0))) hx hb hts (show Cond.arrayClass .int ∈ wsX9_init by decide +kernel) rfl z (fun _ => rfl) (by decide) (by decide) (by decide) (cells' := 11) (slots' := 25600) (Nat.le_of_ble_eq_true rfl) (Nat.le_of_ble_eq_true rfl) rfl rfl dX9_init_98 (fun q_21 cA_22 H z => ?_)
  have z : zw D [(gw, .inr (9, [.ref q_1, .ref q_3, .ref q_5, .ref q_7, .ref q_9, .ref q_11, .ref q_13, .ref q_15, .ref q_17, .ref q_19, .null, .null, .null, .int 0])), (q_1, .inl (cA_2, 1600, .inl (fun _ => 0))), (q_3, .inl (cA_4, 1600, .inl (fun _ => 0))), (q_5, .inl (cA_6, 1600, .inl (fun _ => 0))), (q_7, .inl (cA_8, 1600, .inl (fun _ => 0))), (q_9, .inl (cA_10, 1600, .inl (fun _ => 0))), (q_11, .inl (cA_12, 1600, .inl (fun _ => 0))), (q_13, .inl (cA_14, 1600, .inl (fun _ => 0))), (q_15, .inl (cA_16, 1600, .inl (fun _ => 0))), (q_17, .inl (cA_18, 1600, .inl (fun _ => 0))), (q_19, .inl (cA_20, 9600, .inl (fun _ => 0))), (q_21, .inl (cA_22, 1600, .inl (fun _ => 0)))] [(cA_2, .int), (cA_4, .int), (cA_6, .boolean), (cA_8, .int), (cA_10, .int), (cA_12, .int), (cA_14, .int), (cA_16, .int), (cA_18, .int), (cA_20, .int), (cA_22, .int)] A s.heap s H locs := z
  refine z_putF (v := .ref q_21) (C := RX9) (T := TX9) (N := 14) hx hb hts hiX9 tyX9 tyX9_ok nmX9 hown hin z 0 rfl rfl 10 (by decide) (show Cond.fieldLink RX9 43 "GainTrees$Tree" "after" "[I" ∈ wsX9_init by decide +kernel) rfl rfl rfl rfl rfl (Nat.le_of_ble_eq_true rfl) dX9_init_100 (fun H locs z => ?_)
  have z : zw D [(gw, .inr (9, [.ref q_1, .ref q_3, .ref q_5, .ref q_7, .ref q_9, .ref q_11, .ref q_13, .ref q_15, .ref q_17, .ref q_19, .ref q_21, .null, .null, .int 0])), (q_1, .inl (cA_2, 1600, .inl (fun _ => 0))), (q_3, .inl (cA_4, 1600, .inl (fun _ => 0))), (q_5, .inl (cA_6, 1600, .inl (fun _ => 0))), (q_7, .inl (cA_8, 1600, .inl (fun _ => 0))), (q_9, .inl (cA_10, 1600, .inl (fun _ => 0))), (q_11, .inl (cA_12, 1600, .inl (fun _ => 0))), (q_13, .inl (cA_14, 1600, .inl (fun _ => 0))), (q_15, .inl (cA_16, 1600, .inl (fun _ => 0))), (q_17, .inl (cA_18, 1600, .inl (fun _ => 0))), (q_19, .inl (cA_20, 9600, .inl (fun _ => 0))), (q_21, .inl (cA_22, 1600, .inl (fun _ => 0)))] [(cA_2, .int), (cA_4, .int), (cA_6, .boolean), (cA_8, .int), (cA_10, .int), (cA_12, .int), (cA_14, .int), (cA_16, .int), (cA_18, .int), (cA_20, .int), (cA_22, .int)] A s.heap s H locs := z
  refine lv_aload_n hx hb dX9_init_103 rfl (lv_at hl 0 rfl) ?_
  refine lv_sipush (v := 1600) hx hb dX9_init_104 (by decide) ?_
  refine z_newa (atype := .int) (ty := .int) (a0 := (1600, .inl (fun _ => 0))) hx hb hts (show Cond.arrayClass .int ∈ wsX9_init by decide +kernel) rfl z (fun _ => rfl) (by decide) (by decide) (by decide) (cells' := 12) (slots' := 27200) (Nat.le_of_ble_eq_true rfl) (Nat.le_of_ble_eq_true rfl) rfl rfl dX9_init_107 (fun q_23 cA_24 H z => ?_)
  have z : zw D [(gw, .inr (9, [.ref q_1, .ref q_3, .ref q_5, .ref q_7, .ref q_9, .ref q_11, .ref q_13, .ref q_15, .ref q_17, .ref q_19, .ref q_21, .null, .null, .int 0])), (q_1, .inl (cA_2, 1600, .inl (fun _ => 0))), (q_3, .inl (cA_4, 1600, .inl (fun _ => 0))), (q_5, .inl (cA_6, 1600, .inl (fun _ => 0))), (q_7, .inl (cA_8, 1600, .inl (fun _ => 0))), (q_9, .inl (cA_10, 1600, .inl (fun _ => 0))), (q_11, .inl (cA_12, 1600, .inl (fun _ => 0))), (q_13, .inl (cA_14, 1600, .inl (fun _ => 0))), (q_15, .inl (cA_16, 1600, .inl (fun _ => 0))), (q_17, .inl (cA_18, 1600, .inl (fun _ => 0))), (q_19, .inl (cA_20, 9600, .inl (fun _ => 0))), (q_21, .inl (cA_22, 1600, .inl (fun _ => 0))), (q_23, .inl (cA_24, 1600, .inl (fun _ => 0)))] [(cA_2, .int), (cA_4, .int), (cA_6, .boolean), (cA_8, .int), (cA_10, .int), (cA_12, .int), (cA_14, .int), (cA_16, .int), (cA_18, .int), (cA_20, .int), (cA_22, .int), (cA_24, .int)] A s.heap s H locs := z
  refine z_putF (v := .ref q_23) (C := RX9) (T := TX9) (N := 14) hx hb hts hiX9 tyX9 tyX9_ok nmX9 hown hin z 0 rfl rfl 11 (by decide) (show Cond.fieldLink RX9 46 "GainTrees$Tree" "wrongHere" "[I" ∈ wsX9_init by decide +kernel) rfl rfl rfl rfl rfl (Nat.le_of_ble_eq_true rfl) dX9_init_109 (fun H locs z => ?_)
  have z : zw D [(gw, .inr (9, [.ref q_1, .ref q_3, .ref q_5, .ref q_7, .ref q_9, .ref q_11, .ref q_13, .ref q_15, .ref q_17, .ref q_19, .ref q_21, .ref q_23, .null, .int 0])), (q_1, .inl (cA_2, 1600, .inl (fun _ => 0))), (q_3, .inl (cA_4, 1600, .inl (fun _ => 0))), (q_5, .inl (cA_6, 1600, .inl (fun _ => 0))), (q_7, .inl (cA_8, 1600, .inl (fun _ => 0))), (q_9, .inl (cA_10, 1600, .inl (fun _ => 0))), (q_11, .inl (cA_12, 1600, .inl (fun _ => 0))), (q_13, .inl (cA_14, 1600, .inl (fun _ => 0))), (q_15, .inl (cA_16, 1600, .inl (fun _ => 0))), (q_17, .inl (cA_18, 1600, .inl (fun _ => 0))), (q_19, .inl (cA_20, 9600, .inl (fun _ => 0))), (q_21, .inl (cA_22, 1600, .inl (fun _ => 0))), (q_23, .inl (cA_24, 1600, .inl (fun _ => 0)))] [(cA_2, .int), (cA_4, .int), (cA_6, .boolean), (cA_8, .int), (cA_10, .int), (cA_12, .int), (cA_14, .int), (cA_16, .int), (cA_18, .int), (cA_20, .int), (cA_22, .int), (cA_24, .int)] A s.heap s H locs := z
  refine lv_aload_n hx hb dX9_init_112 rfl (lv_at hl 0 rfl) ?_
  refine lv_sipush (v := 1600) hx hb dX9_init_113 (by decide) ?_
  refine z_newa (atype := .int) (ty := .int) (a0 := (1600, .inl (fun _ => 0))) hx hb hts (show Cond.arrayClass .int ∈ wsX9_init by decide +kernel) rfl z (fun _ => rfl) (by decide) (by decide) (by decide) (cells' := 13) (slots' := 28800) (Nat.le_of_ble_eq_true rfl) (Nat.le_of_ble_eq_true rfl) rfl rfl dX9_init_116 (fun q_25 cA_26 H z => ?_)
  have z : zw D [(gw, .inr (9, [.ref q_1, .ref q_3, .ref q_5, .ref q_7, .ref q_9, .ref q_11, .ref q_13, .ref q_15, .ref q_17, .ref q_19, .ref q_21, .ref q_23, .null, .int 0])), (q_1, .inl (cA_2, 1600, .inl (fun _ => 0))), (q_3, .inl (cA_4, 1600, .inl (fun _ => 0))), (q_5, .inl (cA_6, 1600, .inl (fun _ => 0))), (q_7, .inl (cA_8, 1600, .inl (fun _ => 0))), (q_9, .inl (cA_10, 1600, .inl (fun _ => 0))), (q_11, .inl (cA_12, 1600, .inl (fun _ => 0))), (q_13, .inl (cA_14, 1600, .inl (fun _ => 0))), (q_15, .inl (cA_16, 1600, .inl (fun _ => 0))), (q_17, .inl (cA_18, 1600, .inl (fun _ => 0))), (q_19, .inl (cA_20, 9600, .inl (fun _ => 0))), (q_21, .inl (cA_22, 1600, .inl (fun _ => 0))), (q_23, .inl (cA_24, 1600, .inl (fun _ => 0))), (q_25, .inl (cA_26, 1600, .inl (fun _ => 0)))] [(cA_2, .int), (cA_4, .int), (cA_6, .boolean), (cA_8, .int), (cA_10, .int), (cA_12, .int), (cA_14, .int), (cA_16, .int), (cA_18, .int), (cA_20, .int), (cA_22, .int), (cA_24, .int), (cA_26, .int)] A s.heap s H locs := z
  refine z_putF (v := .ref q_25) (C := RX9) (T := TX9) (N := 14) hx hb hts hiX9 tyX9 tyX9_ok nmX9 hown hin z 0 rfl rfl 12 (by decide) (show Cond.fieldLink RX9 49 "GainTrees$Tree" "wrongBelow" "[I" ∈ wsX9_init by decide +kernel) rfl rfl rfl rfl rfl (Nat.le_of_ble_eq_true rfl) dX9_init_118 (fun H locs z => ?_)
  have z : zw D [(gw, .inr (9, [.ref q_1, .ref q_3, .ref q_5, .ref q_7, .ref q_9, .ref q_11, .ref q_13, .ref q_15, .ref q_17, .ref q_19, .ref q_21, .ref q_23, .ref q_25, .int 0])), (q_1, .inl (cA_2, 1600, .inl (fun _ => 0))), (q_3, .inl (cA_4, 1600, .inl (fun _ => 0))), (q_5, .inl (cA_6, 1600, .inl (fun _ => 0))), (q_7, .inl (cA_8, 1600, .inl (fun _ => 0))), (q_9, .inl (cA_10, 1600, .inl (fun _ => 0))), (q_11, .inl (cA_12, 1600, .inl (fun _ => 0))), (q_13, .inl (cA_14, 1600, .inl (fun _ => 0))), (q_15, .inl (cA_16, 1600, .inl (fun _ => 0))), (q_17, .inl (cA_18, 1600, .inl (fun _ => 0))), (q_19, .inl (cA_20, 9600, .inl (fun _ => 0))), (q_21, .inl (cA_22, 1600, .inl (fun _ => 0))), (q_23, .inl (cA_24, 1600, .inl (fun _ => 0))), (q_25, .inl (cA_26, 1600, .inl (fun _ => 0)))] [(cA_2, .int), (cA_4, .int), (cA_6, .boolean), (cA_8, .int), (cA_10, .int), (cA_12, .int), (cA_14, .int), (cA_16, .int), (cA_18, .int), (cA_20, .int), (cA_22, .int), (cA_24, .int), (cA_26, .int)] A s.heap s H locs := z
  exact z_vret hx hb hr hlocks z (fun t h => ⟨q_1, q_3, q_5, q_7, q_9, q_11, q_13, q_15, q_17, q_19, q_21, q_23, q_25, h.sub [0] [] (by decide) rfl rfl⟩) (Nat.le_of_ble_eq_true rfl) (Nat.le_of_ble_eq_true rfl) dX9_init_121

set_option maxHeartbeats 4000000 in
set_option maxRecDepth 100000 in
/-- Rules() -/
theorem c_X5_init (l : Launch) (D : va_G) (sz : Nat) (md : Nat) : Met l yX5_init wsX5_init ({ frames := 1, cells := 15, slots := 39380, locals := 20 }) (va_Pc [.ref md] (zI D [(md, .inr (5, [.null, .null, .null, .null, .null, .null, .null, .null, .null, .null, .null, .null, .null, .null, .null, .int 0, .int 0, .int 0]))] [] sz)) (va_Qv (fun (_ : Unit) => True) (fun _ t => ∃ md_0 : Nat, ∃ md_1 : Nat, ∃ md_2 : Nat, ∃ md_3 : Nat, ∃ md_4 : Nat, ∃ md_5 : Nat, ∃ md_6 : Nat, ∃ md_7 : Nat, ∃ md_8 : Nat, ∃ md_9 : Nat, ∃ md_10 : Nat, ∃ md_11 : Nat, ∃ md_12 : Nat, ∃ md_13 : Nat, ∃ md_14 : Nat, zB D (va_A [(md, .inr (5, [.null, .null, .null, .null, .null, .null, .null, .null, .null, .null, .null, .null, .null, .null, .null, .int 0, .int 0, .int 0]))] sz) [(md, .inr (5, [.ref md_0, .ref md_1, .ref md_2, .ref md_3, .ref md_4, .ref md_5, .ref md_6, .ref md_7, .ref md_8, .ref md_9, .ref md_10, .ref md_11, .ref md_12, .ref md_13, .ref md_14, .int 0, .int 0, .int 0]))] [] t) (va_A [(md, .inr (5, [.null, .null, .null, .null, .null, .null, .null, .null, .null, .null, .null, .null, .null, .null, .null, .int 0, .int 0, .int 0]))] sz)) 15 39380 (va_A [(md, .inr (5, [.null, .null, .null, .null, .null, .null, .null, .null, .null, .null, .null, .null, .null, .null, .null, .int 0, .int 0, .int 0]))] sz) := by
  refine Met.ofW (cc := cX5_init) (maxL := 1) (ret := none) (by decide) rfl ?_
  intro p e s m args below meth c s₁ B hml hv
  obtain ⟨rfl, hv⟩ := hv
  have hx := B.exec
  have hb := B.bytes
  have hr := B.returns
  have hts := atoms_spec (ws := wsX5_init) B.pre
  have hown : s.vm.findClass RX5 = some m.cls := findClass_of_methodNamed B.named
  have hlocks := B.notSynchronized
  have hiX5 : ∀ w ∈ u_ws RX5 TX5 18, w ∈ wsX5_init := (fun _ h => List.mem_cons_of_mem _ (List.mem_append_right _ h))
  have hin : meth.name = "<init>" := (name_of_methodNamed B.named B.method).1
  obtain ⟨hsz, z⟩ := hv.start
  clear hv
  subst hsz
  generalize va_A [(md, .inr (5, [.null, .null, .null, .null, .null, .null, .null, .null, .null, .null, .null, .null, .null, .null, .null, .int 0, .int 0, .int 0]))] s.heap.size = A at z ⊢
  have hl := lv_entry ([.ref md]) (n := 1) (Nat.le_of_ble_eq_true rfl)
  rw [lg_entry_eq]
  generalize (lg_sl ([.ref md]) ++ List.replicate (1 - (lg_sl ([.ref md])).length) Slot.unset).toArray = ls at hl ⊢
  have hl : lv_has ls 1 [(0, .ref md)] := hl
  refine z_begin z (fun H locs z => ?_)
  refine lv_aload_n hx hb dX5_init_0 rfl (lv_at hl 0 rfl) ?_
  refine W.objInit hx hb hown (hts (.methodLink RX5 3 objectInit) (by decide +kernel)) (hts (.instanceMethod objectInit) (by decide +kernel)) (hts (.code objectInit ⟨#[0xb1]⟩ 1 none) (by decide +kernel)) rfl (by rw [hml]; exact hl.1) rfl dX5_init_1 (Nat.le_of_ble_eq_true rfl) (Nat.le_of_ble_eq_true rfl) ?_
  refine W.eq (g2 := F0 m 4 ls []) rfl ?_
  refine lv_aload_n hx hb dX5_init_4 rfl (lv_at hl 0 rfl) ?_
  refine lv_sipush (v := 12000) hx hb dX5_init_5 (by decide) ?_
  refine z_newa (atype := .int) (ty := .int) (a0 := (12000, .inl (fun _ => 0))) hx hb hts (show Cond.arrayClass .int ∈ wsX5_init by decide +kernel) rfl z (fun _ => rfl) (by decide) (by decide) (by decide) (cells' := 1) (slots' := 12000) (Nat.le_of_ble_eq_true rfl) (Nat.le_of_ble_eq_true rfl) rfl rfl dX5_init_8 (fun q_1 cA_2 H z => ?_)
  have z : zw D [(md, .inr (5, [.null, .null, .null, .null, .null, .null, .null, .null, .null, .null, .null, .null, .null, .null, .null, .int 0, .int 0, .int 0])), (q_1, .inl (cA_2, 12000, .inl (fun _ => 0)))] [(cA_2, .int)] A s.heap s H locs := z
  refine z_putF (v := .ref q_1) (C := RX5) (T := TX5) (N := 18) hx hb hts hiX5 tyX5 tyX5_ok nmX5 hown hin z 0 rfl rfl 0 (by decide) (show Cond.fieldLink RX5 11 "GainTrees$Rules" "attribute" "[I" ∈ wsX5_init by decide +kernel) rfl rfl rfl rfl rfl (Nat.le_of_ble_eq_true rfl) dX5_init_10 (fun H locs z => ?_)
  have z : zw D [(md, .inr (5, [.ref q_1, .null, .null, .null, .null, .null, .null, .null, .null, .null, .null, .null, .null, .null, .null, .int 0, .int 0, .int 0])), (q_1, .inl (cA_2, 12000, .inl (fun _ => 0)))] [(cA_2, .int)] A s.heap s H locs := z
  refine lv_aload_n hx hb dX5_init_13 rfl (lv_at hl 0 rfl) ?_
  refine lv_sipush (v := 12000) hx hb dX5_init_14 (by decide) ?_
  refine z_newa (atype := .int) (ty := .int) (a0 := (12000, .inl (fun _ => 0))) hx hb hts (show Cond.arrayClass .int ∈ wsX5_init by decide +kernel) rfl z (fun _ => rfl) (by decide) (by decide) (by decide) (cells' := 2) (slots' := 24000) (Nat.le_of_ble_eq_true rfl) (Nat.le_of_ble_eq_true rfl) rfl rfl dX5_init_17 (fun q_3 cA_4 H z => ?_)
  have z : zw D [(md, .inr (5, [.ref q_1, .null, .null, .null, .null, .null, .null, .null, .null, .null, .null, .null, .null, .null, .null, .int 0, .int 0, .int 0])), (q_1, .inl (cA_2, 12000, .inl (fun _ => 0))), (q_3, .inl (cA_4, 12000, .inl (fun _ => 0)))] [(cA_2, .int), (cA_4, .int)] A s.heap s H locs := z
  refine z_putF (v := .ref q_3) (C := RX5) (T := TX5) (N := 18) hx hb hts hiX5 tyX5 tyX5_ok nmX5 hown hin z 0 rfl rfl 1 (by decide) (show Cond.fieldLink RX5 15 "GainTrees$Rules" "sort" "[I" ∈ wsX5_init by decide +kernel) rfl rfl rfl rfl rfl (Nat.le_of_ble_eq_true rfl) dX5_init_19 (fun H locs z => ?_)
  have z : zw D [(md, .inr (5, [.ref q_1, .ref q_3, .null, .null, .null, .null, .null, .null, .null, .null, .null, .null, .null, .null, .null, .int 0, .int 0, .int 0])), (q_1, .inl (cA_2, 12000, .inl (fun _ => 0))), (q_3, .inl (cA_4, 12000, .inl (fun _ => 0)))] [(cA_2, .int), (cA_4, .int)] A s.heap s H locs := z
  refine lv_aload_n hx hb dX5_init_22 rfl (lv_at hl 0 rfl) ?_
  refine lv_sipush (v := 12000) hx hb dX5_init_23 (by decide) ?_
  refine z_newa (atype := .int) (ty := .int) (a0 := (12000, .inl (fun _ => 0))) hx hb hts (show Cond.arrayClass .int ∈ wsX5_init by decide +kernel) rfl z (fun _ => rfl) (by decide) (by decide) (by decide) (cells' := 3) (slots' := 36000) (Nat.le_of_ble_eq_true rfl) (Nat.le_of_ble_eq_true rfl) rfl rfl dX5_init_26 (fun q_5 cA_6 H z => ?_)
  have z : zw D [(md, .inr (5, [.ref q_1, .ref q_3, .null, .null, .null, .null, .null, .null, .null, .null, .null, .null, .null, .null, .null, .int 0, .int 0, .int 0])), (q_1, .inl (cA_2, 12000, .inl (fun _ => 0))), (q_3, .inl (cA_4, 12000, .inl (fun _ => 0))), (q_5, .inl (cA_6, 12000, .inl (fun _ => 0)))] [(cA_2, .int), (cA_4, .int), (cA_6, .int)] A s.heap s H locs := z
  refine z_putF (v := .ref q_5) (C := RX5) (T := TX5) (N := 18) hx hb hts hiX5 tyX5 tyX5_ok nmX5 hown hin z 0 rfl rfl 2 (by decide) (show Cond.fieldLink RX5 18 "GainTrees$Rules" "bound" "[I" ∈ wsX5_init by decide +kernel) rfl rfl rfl rfl rfl (Nat.le_of_ble_eq_true rfl) dX5_init_28 (fun H locs z => ?_)
  have z : zw D [(md, .inr (5, [.ref q_1, .ref q_3, .ref q_5, .null, .null, .null, .null, .null, .null, .null, .null, .null, .null, .null, .null, .int 0, .int 0, .int 0])), (q_1, .inl (cA_2, 12000, .inl (fun _ => 0))), (q_3, .inl (cA_4, 12000, .inl (fun _ => 0))), (q_5, .inl (cA_6, 12000, .inl (fun _ => 0)))] [(cA_2, .int), (cA_4, .int), (cA_6, .int)] A s.heap s H locs := z
  refine lv_aload_n hx hb dX5_init_31 rfl (lv_at hl 0 rfl) ?_
  refine lv_sipush (v := 200) hx hb dX5_init_32 (by decide) ?_
  refine z_newa (atype := .int) (ty := .int) (a0 := (200, .inl (fun _ => 0))) hx hb hts (show Cond.arrayClass .int ∈ wsX5_init by decide +kernel) rfl z (fun _ => rfl) (by decide) (by decide) (by decide) (cells' := 4) (slots' := 36200) (Nat.le_of_ble_eq_true rfl) (Nat.le_of_ble_eq_true rfl) rfl rfl dX5_init_35 (fun q_7 cA_8 H z => ?_)
  have z : zw D [(md, .inr (5, [.ref q_1, .ref q_3, .ref q_5, .null, .null, .null, .null, .null, .null, .null, .null, .null, .null, .null, .null, .int 0, .int 0, .int 0])), (q_1, .inl (cA_2, 12000, .inl (fun _ => 0))), (q_3, .inl (cA_4, 12000, .inl (fun _ => 0))), (q_5, .inl (cA_6, 12000, .inl (fun _ => 0))), (q_7, .inl (cA_8, 200, .inl (fun _ => 0)))] [(cA_2, .int), (cA_4, .int), (cA_6, .int), (cA_8, .int)] A s.heap s H locs := z
  refine z_putF (v := .ref q_7) (C := RX5) (T := TX5) (N := 18) hx hb hts hiX5 tyX5 tyX5_ok nmX5 hown hin z 0 rfl rfl 3 (by decide) (show Cond.fieldLink RX5 21 "GainTrees$Rules" "start" "[I" ∈ wsX5_init by decide +kernel) rfl rfl rfl rfl rfl (Nat.le_of_ble_eq_true rfl) dX5_init_37 (fun H locs z => ?_)
  have z : zw D [(md, .inr (5, [.ref q_1, .ref q_3, .ref q_5, .ref q_7, .null, .null, .null, .null, .null, .null, .null, .null, .null, .null, .null, .int 0, .int 0, .int 0])), (q_1, .inl (cA_2, 12000, .inl (fun _ => 0))), (q_3, .inl (cA_4, 12000, .inl (fun _ => 0))), (q_5, .inl (cA_6, 12000, .inl (fun _ => 0))), (q_7, .inl (cA_8, 200, .inl (fun _ => 0)))] [(cA_2, .int), (cA_4, .int), (cA_6, .int), (cA_8, .int)] A s.heap s H locs := z
  refine lv_aload_n hx hb dX5_init_40 rfl (lv_at hl 0 rfl) ?_
  refine lv_sipush (v := 200) hx hb dX5_init_41 (by decide) ?_
  refine z_newa (atype := .int) (ty := .int) (a0 := (200, .inl (fun _ => 0))) hx hb hts (show Cond.arrayClass .int ∈ wsX5_init by decide +kernel) rfl z (fun _ => rfl) (by decide) (by decide) (by decide) (cells' := 5) (slots' := 36400) (Nat.le_of_ble_eq_true rfl) (Nat.le_of_ble_eq_true rfl) rfl rfl dX5_init_44 (fun q_9 cA_10 H z => ?_)
  have z : zw D [(md, .inr (5, [.ref q_1, .ref q_3, .ref q_5, .ref q_7, .null, .null, .null, .null, .null, .null, .null, .null, .null, .null, .null, .int 0, .int 0, .int 0])), (q_1, .inl (cA_2, 12000, .inl (fun _ => 0))), (q_3, .inl (cA_4, 12000, .inl (fun _ => 0))), (q_5, .inl (cA_6, 12000, .inl (fun _ => 0))), (q_7, .inl (cA_8, 200, .inl (fun _ => 0))), (q_9, .inl (cA_10, 200, .inl (fun _ => 0)))] [(cA_2, .int), (cA_4, .int), (cA_6, .int), (cA_8, .int), (cA_10, .int)] A s.heap s H locs := z
  refine z_putF (v := .ref q_9) (C := RX5) (T := TX5) (N := 18) hx hb hts hiX5 tyX5 tyX5_ok nmX5 hown hin z 0 rfl rfl 4 (by decide) (show Cond.fieldLink RX5 24 "GainTrees$Rules" "size" "[I" ∈ wsX5_init by decide +kernel) rfl rfl rfl rfl rfl (Nat.le_of_ble_eq_true rfl) dX5_init_46 (fun H locs z => ?_)
  have z : zw D [(md, .inr (5, [.ref q_1, .ref q_3, .ref q_5, .ref q_7, .ref q_9, .null, .null, .null, .null, .null, .null, .null, .null, .null, .null, .int 0, .int 0, .int 0])), (q_1, .inl (cA_2, 12000, .inl (fun _ => 0))), (q_3, .inl (cA_4, 12000, .inl (fun _ => 0))), (q_5, .inl (cA_6, 12000, .inl (fun _ => 0))), (q_7, .inl (cA_8, 200, .inl (fun _ => 0))), (q_9, .inl (cA_10, 200, .inl (fun _ => 0)))] [(cA_2, .int), (cA_4, .int), (cA_6, .int), (cA_8, .int), (cA_10, .int)] A s.heap s H locs := z
  refine lv_aload_n hx hb dX5_init_49 rfl (lv_at hl 0 rfl) ?_
  refine lv_sipush (v := 200) hx hb dX5_init_50 (by decide) ?_
  refine z_newa (atype := .int) (ty := .int) (a0 := (200, .inl (fun _ => 0))) hx hb hts (show Cond.arrayClass .int ∈ wsX5_init by decide +kernel) rfl z (fun _ => rfl) (by decide) (by decide) (by decide) (cells' := 6) (slots' := 36600) (Nat.le_of_ble_eq_true rfl) (Nat.le_of_ble_eq_true rfl) rfl rfl dX5_init_53 (fun q_11 cA_12 H z => ?_)
  have z : zw D [(md, .inr (5, [.ref q_1, .ref q_3, .ref q_5, .ref q_7, .ref q_9, .null, .null, .null, .null, .null, .null, .null, .null, .null, .null, .int 0, .int 0, .int 0])), (q_1, .inl (cA_2, 12000, .inl (fun _ => 0))), (q_3, .inl (cA_4, 12000, .inl (fun _ => 0))), (q_5, .inl (cA_6, 12000, .inl (fun _ => 0))), (q_7, .inl (cA_8, 200, .inl (fun _ => 0))), (q_9, .inl (cA_10, 200, .inl (fun _ => 0))), (q_11, .inl (cA_12, 200, .inl (fun _ => 0)))] [(cA_2, .int), (cA_4, .int), (cA_6, .int), (cA_8, .int), (cA_10, .int), (cA_12, .int)] A s.heap s H locs := z
  refine z_putF (v := .ref q_11) (C := RX5) (T := TX5) (N := 18) hx hb hts hiX5 tyX5 tyX5_ok nmX5 hown hin z 0 rfl rfl 5 (by decide) (show Cond.fieldLink RX5 27 "GainTrees$Rules" "ranked" "[I" ∈ wsX5_init by decide +kernel) rfl rfl rfl rfl rfl (Nat.le_of_ble_eq_true rfl) dX5_init_55 (fun H locs z => ?_)
  have z : zw D [(md, .inr (5, [.ref q_1, .ref q_3, .ref q_5, .ref q_7, .ref q_9, .ref q_11, .null, .null, .null, .null, .null, .null, .null, .null, .null, .int 0, .int 0, .int 0])), (q_1, .inl (cA_2, 12000, .inl (fun _ => 0))), (q_3, .inl (cA_4, 12000, .inl (fun _ => 0))), (q_5, .inl (cA_6, 12000, .inl (fun _ => 0))), (q_7, .inl (cA_8, 200, .inl (fun _ => 0))), (q_9, .inl (cA_10, 200, .inl (fun _ => 0))), (q_11, .inl (cA_12, 200, .inl (fun _ => 0)))] [(cA_2, .int), (cA_4, .int), (cA_6, .int), (cA_8, .int), (cA_10, .int), (cA_12, .int)] A s.heap s H locs := z
  refine lv_aload_n hx hb dX5_init_58 rfl (lv_at hl 0 rfl) ?_
  refine lv_sipush (v := 200) hx hb dX5_init_59 (by decide) ?_
  refine z_newa (atype := .int) (ty := .int) (a0 := (200, .inl (fun _ => 0))) hx hb hts (show Cond.arrayClass .int ∈ wsX5_init by decide +kernel) rfl z (fun _ => rfl) (by decide) (by decide) (by decide) (cells' := 7) (slots' := 36800) (Nat.le_of_ble_eq_true rfl) (Nat.le_of_ble_eq_true rfl) rfl rfl dX5_init_62 (fun q_13 cA_14 H z => ?_)
  have z : zw D [(md, .inr (5, [.ref q_1, .ref q_3, .ref q_5, .ref q_7, .ref q_9, .ref q_11, .null, .null, .null, .null, .null, .null, .null, .null, .null, .int 0, .int 0, .int 0])), (q_1, .inl (cA_2, 12000, .inl (fun _ => 0))), (q_3, .inl (cA_4, 12000, .inl (fun _ => 0))), (q_5, .inl (cA_6, 12000, .inl (fun _ => 0))), (q_7, .inl (cA_8, 200, .inl (fun _ => 0))), (q_9, .inl (cA_10, 200, .inl (fun _ => 0))), (q_11, .inl (cA_12, 200, .inl (fun _ => 0))), (q_13, .inl (cA_14, 200, .inl (fun _ => 0)))] [(cA_2, .int), (cA_4, .int), (cA_6, .int), (cA_8, .int), (cA_10, .int), (cA_12, .int), (cA_14, .int)] A s.heap s H locs := z
  refine z_putF (v := .ref q_13) (C := RX5) (T := TX5) (N := 18) hx hb hts hiX5 tyX5 tyX5_ok nmX5 hown hin z 0 rfl rfl 6 (by decide) (show Cond.fieldLink RX5 30 "GainTrees$Rules" "result" "[I" ∈ wsX5_init by decide +kernel) rfl rfl rfl rfl rfl (Nat.le_of_ble_eq_true rfl) dX5_init_64 (fun H locs z => ?_)
  have z : zw D [(md, .inr (5, [.ref q_1, .ref q_3, .ref q_5, .ref q_7, .ref q_9, .ref q_11, .ref q_13, .null, .null, .null, .null, .null, .null, .null, .null, .int 0, .int 0, .int 0])), (q_1, .inl (cA_2, 12000, .inl (fun _ => 0))), (q_3, .inl (cA_4, 12000, .inl (fun _ => 0))), (q_5, .inl (cA_6, 12000, .inl (fun _ => 0))), (q_7, .inl (cA_8, 200, .inl (fun _ => 0))), (q_9, .inl (cA_10, 200, .inl (fun _ => 0))), (q_11, .inl (cA_12, 200, .inl (fun _ => 0))), (q_13, .inl (cA_14, 200, .inl (fun _ => 0)))] [(cA_2, .int), (cA_4, .int), (cA_6, .int), (cA_8, .int), (cA_10, .int), (cA_12, .int), (cA_14, .int)] A s.heap s H locs := z
  refine lv_aload_n hx hb dX5_init_67 rfl (lv_at hl 0 rfl) ?_
  refine lv_sipush (v := 200) hx hb dX5_init_68 (by decide) ?_
  refine z_newa (atype := .int) (ty := .int) (a0 := (200, .inl (fun _ => 0))) hx hb hts (show Cond.arrayClass .int ∈ wsX5_init by decide +kernel) rfl z (fun _ => rfl) (by decide) (by decide) (by decide) (cells' := 8) (slots' := 37000) (Nat.le_of_ble_eq_true rfl) (Nat.le_of_ble_eq_true rfl) rfl rfl dX5_init_71 (fun q_15 cA_16 H z => ?_)
  have z : zw D [(md, .inr (5, [.ref q_1, .ref q_3, .ref q_5, .ref q_7, .ref q_9, .ref q_11, .ref q_13, .null, .null, .null, .null, .null, .null, .null, .null, .int 0, .int 0, .int 0])), (q_1, .inl (cA_2, 12000, .inl (fun _ => 0))), (q_3, .inl (cA_4, 12000, .inl (fun _ => 0))), (q_5, .inl (cA_6, 12000, .inl (fun _ => 0))), (q_7, .inl (cA_8, 200, .inl (fun _ => 0))), (q_9, .inl (cA_10, 200, .inl (fun _ => 0))), (q_11, .inl (cA_12, 200, .inl (fun _ => 0))), (q_13, .inl (cA_14, 200, .inl (fun _ => 0))), (q_15, .inl (cA_16, 200, .inl (fun _ => 0)))] [(cA_2, .int), (cA_4, .int), (cA_6, .int), (cA_8, .int), (cA_10, .int), (cA_12, .int), (cA_14, .int), (cA_16, .int)] A s.heap s H locs := z
  refine z_putF (v := .ref q_15) (C := RX5) (T := TX5) (N := 18) hx hb hts hiX5 tyX5 tyX5_ok nmX5 hown hin z 0 rfl rfl 7 (by decide) (show Cond.fieldLink RX5 33 "GainTrees$Rules" "covered" "[I" ∈ wsX5_init by decide +kernel) rfl rfl rfl rfl rfl (Nat.le_of_ble_eq_true rfl) dX5_init_73 (fun H locs z => ?_)
  have z : zw D [(md, .inr (5, [.ref q_1, .ref q_3, .ref q_5, .ref q_7, .ref q_9, .ref q_11, .ref q_13, .ref q_15, .null, .null, .null, .null, .null, .null, .null, .int 0, .int 0, .int 0])), (q_1, .inl (cA_2, 12000, .inl (fun _ => 0))), (q_3, .inl (cA_4, 12000, .inl (fun _ => 0))), (q_5, .inl (cA_6, 12000, .inl (fun _ => 0))), (q_7, .inl (cA_8, 200, .inl (fun _ => 0))), (q_9, .inl (cA_10, 200, .inl (fun _ => 0))), (q_11, .inl (cA_12, 200, .inl (fun _ => 0))), (q_13, .inl (cA_14, 200, .inl (fun _ => 0))), (q_15, .inl (cA_16, 200, .inl (fun _ => 0)))] [(cA_2, .int), (cA_4, .int), (cA_6, .int), (cA_8, .int), (cA_10, .int), (cA_12, .int), (cA_14, .int), (cA_16, .int)] A s.heap s H locs := z
  refine lv_aload_n hx hb dX5_init_76 rfl (lv_at hl 0 rfl) ?_
  refine lv_sipush (v := 200) hx hb dX5_init_77 (by decide) ?_
  refine z_newa (atype := .int) (ty := .int) (a0 := (200, .inl (fun _ => 0))) hx hb hts (show Cond.arrayClass .int ∈ wsX5_init by decide +kernel) rfl z (fun _ => rfl) (by decide) (by decide) (by decide) (cells' := 9) (slots' := 37200) (Nat.le_of_ble_eq_true rfl) (Nat.le_of_ble_eq_true rfl) rfl rfl dX5_init_80 (fun q_17 cA_18 H z => ?_)
  have z : zw D [(md, .inr (5, [.ref q_1, .ref q_3, .ref q_5, .ref q_7, .ref q_9, .ref q_11, .ref q_13, .ref q_15, .null, .null, .null, .null, .null, .null, .null, .int 0, .int 0, .int 0])), (q_1, .inl (cA_2, 12000, .inl (fun _ => 0))), (q_3, .inl (cA_4, 12000, .inl (fun _ => 0))), (q_5, .inl (cA_6, 12000, .inl (fun _ => 0))), (q_7, .inl (cA_8, 200, .inl (fun _ => 0))), (q_9, .inl (cA_10, 200, .inl (fun _ => 0))), (q_11, .inl (cA_12, 200, .inl (fun _ => 0))), (q_13, .inl (cA_14, 200, .inl (fun _ => 0))), (q_15, .inl (cA_16, 200, .inl (fun _ => 0))), (q_17, .inl (cA_18, 200, .inl (fun _ => 0)))] [(cA_2, .int), (cA_4, .int), (cA_6, .int), (cA_8, .int), (cA_10, .int), (cA_12, .int), (cA_14, .int), (cA_16, .int), (cA_18, .int)] A s.heap s H locs := z
  refine z_putF (v := .ref q_17) (C := RX5) (T := TX5) (N := 18) hx hb hts hiX5 tyX5 tyX5_ok nmX5 hown hin z 0 rfl rfl 8 (by decide) (show Cond.fieldLink RX5 36 "GainTrees$Rules" "right" "[I" ∈ wsX5_init by decide +kernel) rfl rfl rfl rfl rfl (Nat.le_of_ble_eq_true rfl) dX5_init_82 (fun H locs z => ?_)
  have z : zw D [(md, .inr (5, [.ref q_1, .ref q_3, .ref q_5, .ref q_7, .ref q_9, .ref q_11, .ref q_13, .ref q_15, .ref q_17, .null, .null, .null, .null, .null, .null, .int 0, .int 0, .int 0])), (q_1, .inl (cA_2, 12000, .inl (fun _ => 0))), (q_3, .inl (cA_4, 12000, .inl (fun _ => 0))), (q_5, .inl (cA_6, 12000, .inl (fun _ => 0))), (q_7, .inl (cA_8, 200, .inl (fun _ => 0))), (q_9, .inl (cA_10, 200, .inl (fun _ => 0))), (q_11, .inl (cA_12, 200, .inl (fun _ => 0))), (q_13, .inl (cA_14, 200, .inl (fun _ => 0))), (q_15, .inl (cA_16, 200, .inl (fun _ => 0))), (q_17, .inl (cA_18, 200, .inl (fun _ => 0)))] [(cA_2, .int), (cA_4, .int), (cA_6, .int), (cA_8, .int), (cA_10, .int), (cA_12, .int), (cA_14, .int), (cA_16, .int), (cA_18, .int)] A s.heap s H locs := z
  refine lv_aload_n hx hb dX5_init_85 rfl (lv_at hl 0 rfl) ?_
  refine lv_sipush (v := 200) hx hb dX5_init_86 (by decide) ?_
  refine z_newa (atype := .int) (ty := .int) (a0 := (200, .inl (fun _ => 0))) hx hb hts (show Cond.arrayClass .int ∈ wsX5_init by decide +kernel) rfl z (fun _ => rfl) (by decide) (by decide) (by decide) (cells' := 10) (slots' := 37400) (Nat.le_of_ble_eq_true rfl) (Nat.le_of_ble_eq_true rfl) rfl rfl dX5_init_89 (fun q_19 cA_20 H z => ?_)
  have z : zw D [(md, .inr (5, [.ref q_1, .ref q_3, .ref q_5, .ref q_7, .ref q_9, .ref q_11, .ref q_13, .ref q_15, .ref q_17, .null, .null, .null, .null, .null, .null, .int 0, .int 0, .int 0])), (q_1, .inl (cA_2, 12000, .inl (fun _ => 0))), (q_3, .inl (cA_4, 12000, .inl (fun _ => 0))), (q_5, .inl (cA_6, 12000, .inl (fun _ => 0))), (q_7, .inl (cA_8, 200, .inl (fun _ => 0))), (q_9, .inl (cA_10, 200, .inl (fun _ => 0))), (q_11, .inl (cA_12, 200, .inl (fun _ => 0))), (q_13, .inl (cA_14, 200, .inl (fun _ => 0))), (q_15, .inl (cA_16, 200, .inl (fun _ => 0))), (q_17, .inl (cA_18, 200, .inl (fun _ => 0))), (q_19, .inl (cA_20, 200, .inl (fun _ => 0)))] [(cA_2, .int), (cA_4, .int), (cA_6, .int), (cA_8, .int), (cA_10, .int), (cA_12, .int), (cA_14, .int), (cA_16, .int), (cA_18, .int), (cA_20, .int)] A s.heap s H locs := z
  refine z_putF (v := .ref q_19) (C := RX5) (T := TX5) (N := 18) hx hb hts hiX5 tyX5 tyX5_ok nmX5 hown hin z 0 rfl rfl 9 (by decide) (show Cond.fieldLink RX5 39 "GainTrees$Rules" "misses" "[I" ∈ wsX5_init by decide +kernel) rfl rfl rfl rfl rfl (Nat.le_of_ble_eq_true rfl) dX5_init_91 (fun H locs z => ?_)
  have z : zw D [(md, .inr (5, [.ref q_1, .ref q_3, .ref q_5, .ref q_7, .ref q_9, .ref q_11, .ref q_13, .ref q_15, .ref q_17, .ref q_19, .null, .null, .null, .null, .null, .int 0, .int 0, .int 0])), (q_1, .inl (cA_2, 12000, .inl (fun _ => 0))), (q_3, .inl (cA_4, 12000, .inl (fun _ => 0))), (q_5, .inl (cA_6, 12000, .inl (fun _ => 0))), (q_7, .inl (cA_8, 200, .inl (fun _ => 0))), (q_9, .inl (cA_10, 200, .inl (fun _ => 0))), (q_11, .inl (cA_12, 200, .inl (fun _ => 0))), (q_13, .inl (cA_14, 200, .inl (fun _ => 0))), (q_15, .inl (cA_16, 200, .inl (fun _ => 0))), (q_17, .inl (cA_18, 200, .inl (fun _ => 0))), (q_19, .inl (cA_20, 200, .inl (fun _ => 0)))] [(cA_2, .int), (cA_4, .int), (cA_6, .int), (cA_8, .int), (cA_10, .int), (cA_12, .int), (cA_14, .int), (cA_16, .int), (cA_18, .int), (cA_20, .int)] A s.heap s H locs := z
  refine lv_aload_n hx hb dX5_init_94 rfl (lv_at hl 0 rfl) ?_
  refine lv_sipush (v := 200) hx hb dX5_init_95 (by decide) ?_
  refine z_newa (atype := .int) (ty := .int) (a0 := (200, .inl (fun _ => 0))) hx hb hts (show Cond.arrayClass .int ∈ wsX5_init by decide +kernel) rfl z (fun _ => rfl) (by decide) (by decide) (by decide) (cells' := 11) (slots' := 37600) (Nat.le_of_ble_eq_true rfl) (Nat.le_of_ble_eq_true rfl) rfl rfl dX5_init_98 (fun q_21 cA_22 H z => ?_)
  have z : zw D [(md, .inr (5, [.ref q_1, .ref q_3, .ref q_5, .ref q_7, .ref q_9, .ref q_11, .ref q_13, .ref q_15, .ref q_17, .ref q_19, .null, .null, .null, .null, .null, .int 0, .int 0, .int 0])), (q_1, .inl (cA_2, 12000, .inl (fun _ => 0))), (q_3, .inl (cA_4, 12000, .inl (fun _ => 0))), (q_5, .inl (cA_6, 12000, .inl (fun _ => 0))), (q_7, .inl (cA_8, 200, .inl (fun _ => 0))), (q_9, .inl (cA_10, 200, .inl (fun _ => 0))), (q_11, .inl (cA_12, 200, .inl (fun _ => 0))), (q_13, .inl (cA_14, 200, .inl (fun _ => 0))), (q_15, .inl (cA_16, 200, .inl (fun _ => 0))), (q_17, .inl (cA_18, 200, .inl (fun _ => 0))), (q_19, .inl (cA_20, 200, .inl (fun _ => 0))), (q_21, .inl (cA_22, 200, .inl (fun _ => 0)))] [(cA_2, .int), (cA_4, .int), (cA_6, .int), (cA_8, .int), (cA_10, .int), (cA_12, .int), (cA_14, .int), (cA_16, .int), (cA_18, .int), (cA_20, .int), (cA_22, .int)] A s.heap s H locs := z
  refine z_putF (v := .ref q_21) (C := RX5) (T := TX5) (N := 18) hx hb hts hiX5 tyX5 tyX5_ok nmX5 hown hin z 0 rfl rfl 10 (by decide) (show Cond.fieldLink RX5 42 "GainTrees$Rules" "missed" "[I" ∈ wsX5_init by decide +kernel) rfl rfl rfl rfl rfl (Nat.le_of_ble_eq_true rfl) dX5_init_100 (fun H locs z => ?_)
  have z : zw D [(md, .inr (5, [.ref q_1, .ref q_3, .ref q_5, .ref q_7, .ref q_9, .ref q_11, .ref q_13, .ref q_15, .ref q_17, .ref q_19, .ref q_21, .null, .null, .null, .null, .int 0, .int 0, .int 0])), (q_1, .inl (cA_2, 12000, .inl (fun _ => 0))), (q_3, .inl (cA_4, 12000, .inl (fun _ => 0))), (q_5, .inl (cA_6, 12000, .inl (fun _ => 0))), (q_7, .inl (cA_8, 200, .inl (fun _ => 0))), (q_9, .inl (cA_10, 200, .inl (fun _ => 0))), (q_11, .inl (cA_12, 200, .inl (fun _ => 0))), (q_13, .inl (cA_14, 200, .inl (fun _ => 0))), (q_15, .inl (cA_16, 200, .inl (fun _ => 0))), (q_17, .inl (cA_18, 200, .inl (fun _ => 0))), (q_19, .inl (cA_20, 200, .inl (fun _ => 0))), (q_21, .inl (cA_22, 200, .inl (fun _ => 0)))] [(cA_2, .int), (cA_4, .int), (cA_6, .int), (cA_8, .int), (cA_10, .int), (cA_12, .int), (cA_14, .int), (cA_16, .int), (cA_18, .int), (cA_20, .int), (cA_22, .int)] A s.heap s H locs := z
  refine lv_aload_n hx hb dX5_init_103 rfl (lv_at hl 0 rfl) ?_
  refine lv_bipush (v := 60) hx hb dX5_init_104 (by decide) ?_
  refine z_newa (atype := .int) (ty := .int) (a0 := (60, .inl (fun _ => 0))) hx hb hts (show Cond.arrayClass .int ∈ wsX5_init by decide +kernel) rfl z (fun _ => rfl) (by decide) (by decide) (by decide) (cells' := 12) (slots' := 37660) (Nat.le_of_ble_eq_true rfl) (Nat.le_of_ble_eq_true rfl) rfl rfl dX5_init_106 (fun q_23 cA_24 H z => ?_)
  have z : zw D [(md, .inr (5, [.ref q_1, .ref q_3, .ref q_5, .ref q_7, .ref q_9, .ref q_11, .ref q_13, .ref q_15, .ref q_17, .ref q_19, .ref q_21, .null, .null, .null, .null, .int 0, .int 0, .int 0])), (q_1, .inl (cA_2, 12000, .inl (fun _ => 0))), (q_3, .inl (cA_4, 12000, .inl (fun _ => 0))), (q_5, .inl (cA_6, 12000, .inl (fun _ => 0))), (q_7, .inl (cA_8, 200, .inl (fun _ => 0))), (q_9, .inl (cA_10, 200, .inl (fun _ => 0))), (q_11, .inl (cA_12, 200, .inl (fun _ => 0))), (q_13, .inl (cA_14, 200, .inl (fun _ => 0))), (q_15, .inl (cA_16, 200, .inl (fun _ => 0))), (q_17, .inl (cA_18, 200, .inl (fun _ => 0))), (q_19, .inl (cA_20, 200, .inl (fun _ => 0))), (q_21, .inl (cA_22, 200, .inl (fun _ => 0))), (q_23, .inl (cA_24, 60, .inl (fun _ => 0)))] [(cA_2, .int), (cA_4, .int), (cA_6, .int), (cA_8, .int), (cA_10, .int), (cA_12, .int), (cA_14, .int), (cA_16, .int), (cA_18, .int), (cA_20, .int), (cA_22, .int), (cA_24, .int)] A s.heap s H locs := z
  refine z_putF (v := .ref q_23) (C := RX5) (T := TX5) (N := 18) hx hb hts hiX5 tyX5 tyX5_ok nmX5 hown hin z 0 rfl rfl 11 (by decide) (show Cond.fieldLink RX5 45 "GainTrees$Rules" "coveredWithout" "[I" ∈ wsX5_init by decide +kernel) rfl rfl rfl rfl rfl (Nat.le_of_ble_eq_true rfl) dX5_init_108 (fun H locs z => ?_)
  have z : zw D [(md, .inr (5, [.ref q_1, .ref q_3, .ref q_5, .ref q_7, .ref q_9, .ref q_11, .ref q_13, .ref q_15, .ref q_17, .ref q_19, .ref q_21, .ref q_23, .null, .null, .null, .int 0, .int 0, .int 0])), (q_1, .inl (cA_2, 12000, .inl (fun _ => 0))), (q_3, .inl (cA_4, 12000, .inl (fun _ => 0))), (q_5, .inl (cA_6, 12000, .inl (fun _ => 0))), (q_7, .inl (cA_8, 200, .inl (fun _ => 0))), (q_9, .inl (cA_10, 200, .inl (fun _ => 0))), (q_11, .inl (cA_12, 200, .inl (fun _ => 0))), (q_13, .inl (cA_14, 200, .inl (fun _ => 0))), (q_15, .inl (cA_16, 200, .inl (fun _ => 0))), (q_17, .inl (cA_18, 200, .inl (fun _ => 0))), (q_19, .inl (cA_20, 200, .inl (fun _ => 0))), (q_21, .inl (cA_22, 200, .inl (fun _ => 0))), (q_23, .inl (cA_24, 60, .inl (fun _ => 0)))] [(cA_2, .int), (cA_4, .int), (cA_6, .int), (cA_8, .int), (cA_10, .int), (cA_12, .int), (cA_14, .int), (cA_16, .int), (cA_18, .int), (cA_20, .int), (cA_22, .int), (cA_24, .int)] A s.heap s H locs := z
  refine lv_aload_n hx hb dX5_init_111 rfl (lv_at hl 0 rfl) ?_
  refine lv_bipush (v := 60) hx hb dX5_init_112 (by decide) ?_
  refine z_newa (atype := .int) (ty := .int) (a0 := (60, .inl (fun _ => 0))) hx hb hts (show Cond.arrayClass .int ∈ wsX5_init by decide +kernel) rfl z (fun _ => rfl) (by decide) (by decide) (by decide) (cells' := 13) (slots' := 37720) (Nat.le_of_ble_eq_true rfl) (Nat.le_of_ble_eq_true rfl) rfl rfl dX5_init_114 (fun q_25 cA_26 H z => ?_)
  have z : zw D [(md, .inr (5, [.ref q_1, .ref q_3, .ref q_5, .ref q_7, .ref q_9, .ref q_11, .ref q_13, .ref q_15, .ref q_17, .ref q_19, .ref q_21, .ref q_23, .null, .null, .null, .int 0, .int 0, .int 0])), (q_1, .inl (cA_2, 12000, .inl (fun _ => 0))), (q_3, .inl (cA_4, 12000, .inl (fun _ => 0))), (q_5, .inl (cA_6, 12000, .inl (fun _ => 0))), (q_7, .inl (cA_8, 200, .inl (fun _ => 0))), (q_9, .inl (cA_10, 200, .inl (fun _ => 0))), (q_11, .inl (cA_12, 200, .inl (fun _ => 0))), (q_13, .inl (cA_14, 200, .inl (fun _ => 0))), (q_15, .inl (cA_16, 200, .inl (fun _ => 0))), (q_17, .inl (cA_18, 200, .inl (fun _ => 0))), (q_19, .inl (cA_20, 200, .inl (fun _ => 0))), (q_21, .inl (cA_22, 200, .inl (fun _ => 0))), (q_23, .inl (cA_24, 60, .inl (fun _ => 0))), (q_25, .inl (cA_26, 60, .inl (fun _ => 0)))] [(cA_2, .int), (cA_4, .int), (cA_6, .int), (cA_8, .int), (cA_10, .int), (cA_12, .int), (cA_14, .int), (cA_16, .int), (cA_18, .int), (cA_20, .int), (cA_22, .int), (cA_24, .int), (cA_26, .int)] A s.heap s H locs := z
  refine z_putF (v := .ref q_25) (C := RX5) (T := TX5) (N := 18) hx hb hts hiX5 tyX5 tyX5_ok nmX5 hown hin z 0 rfl rfl 12 (by decide) (show Cond.fieldLink RX5 48 "GainTrees$Rules" "rightWithout" "[I" ∈ wsX5_init by decide +kernel) rfl rfl rfl rfl rfl (Nat.le_of_ble_eq_true rfl) dX5_init_116 (fun H locs z => ?_)
  have z : zw D [(md, .inr (5, [.ref q_1, .ref q_3, .ref q_5, .ref q_7, .ref q_9, .ref q_11, .ref q_13, .ref q_15, .ref q_17, .ref q_19, .ref q_21, .ref q_23, .ref q_25, .null, .null, .int 0, .int 0, .int 0])), (q_1, .inl (cA_2, 12000, .inl (fun _ => 0))), (q_3, .inl (cA_4, 12000, .inl (fun _ => 0))), (q_5, .inl (cA_6, 12000, .inl (fun _ => 0))), (q_7, .inl (cA_8, 200, .inl (fun _ => 0))), (q_9, .inl (cA_10, 200, .inl (fun _ => 0))), (q_11, .inl (cA_12, 200, .inl (fun _ => 0))), (q_13, .inl (cA_14, 200, .inl (fun _ => 0))), (q_15, .inl (cA_16, 200, .inl (fun _ => 0))), (q_17, .inl (cA_18, 200, .inl (fun _ => 0))), (q_19, .inl (cA_20, 200, .inl (fun _ => 0))), (q_21, .inl (cA_22, 200, .inl (fun _ => 0))), (q_23, .inl (cA_24, 60, .inl (fun _ => 0))), (q_25, .inl (cA_26, 60, .inl (fun _ => 0)))] [(cA_2, .int), (cA_4, .int), (cA_6, .int), (cA_8, .int), (cA_10, .int), (cA_12, .int), (cA_14, .int), (cA_16, .int), (cA_18, .int), (cA_20, .int), (cA_22, .int), (cA_24, .int), (cA_26, .int)] A s.heap s H locs := z
  refine lv_aload_n hx hb dX5_init_119 rfl (lv_at hl 0 rfl) ?_
  refine lv_bipush (v := 60) hx hb dX5_init_120 (by decide) ?_
  refine z_newa (atype := .boolean) (ty := .boolean) (a0 := (60, .inl (fun _ => 0))) hx hb hts (show Cond.arrayClass .boolean ∈ wsX5_init by decide +kernel) rfl z (fun _ => rfl) (by decide) (by decide) (by decide) (cells' := 14) (slots' := 37780) (Nat.le_of_ble_eq_true rfl) (Nat.le_of_ble_eq_true rfl) rfl rfl dX5_init_122 (fun q_27 cA_28 H z => ?_)
  have z : zw D [(md, .inr (5, [.ref q_1, .ref q_3, .ref q_5, .ref q_7, .ref q_9, .ref q_11, .ref q_13, .ref q_15, .ref q_17, .ref q_19, .ref q_21, .ref q_23, .ref q_25, .null, .null, .int 0, .int 0, .int 0])), (q_1, .inl (cA_2, 12000, .inl (fun _ => 0))), (q_3, .inl (cA_4, 12000, .inl (fun _ => 0))), (q_5, .inl (cA_6, 12000, .inl (fun _ => 0))), (q_7, .inl (cA_8, 200, .inl (fun _ => 0))), (q_9, .inl (cA_10, 200, .inl (fun _ => 0))), (q_11, .inl (cA_12, 200, .inl (fun _ => 0))), (q_13, .inl (cA_14, 200, .inl (fun _ => 0))), (q_15, .inl (cA_16, 200, .inl (fun _ => 0))), (q_17, .inl (cA_18, 200, .inl (fun _ => 0))), (q_19, .inl (cA_20, 200, .inl (fun _ => 0))), (q_21, .inl (cA_22, 200, .inl (fun _ => 0))), (q_23, .inl (cA_24, 60, .inl (fun _ => 0))), (q_25, .inl (cA_26, 60, .inl (fun _ => 0))), (q_27, .inl (cA_28, 60, .inl (fun _ => 0)))] [(cA_2, .int), (cA_4, .int), (cA_6, .int), (cA_8, .int), (cA_10, .int), (cA_12, .int), (cA_14, .int), (cA_16, .int), (cA_18, .int), (cA_20, .int), (cA_22, .int), (cA_24, .int), (cA_26, .int), (cA_28, .boolean)] A s.heap s H locs := z
  refine z_putF (v := .ref q_27) (C := RX5) (T := TX5) (N := 18) hx hb hts hiX5 tyX5 tyX5_ok nmX5 hown hin z 0 rfl rfl 13 (by decide) (show Cond.fieldLink RX5 51 "GainTrees$Rules" "gone" "[Z" ∈ wsX5_init by decide +kernel) rfl rfl rfl rfl rfl (Nat.le_of_ble_eq_true rfl) dX5_init_124 (fun H locs z => ?_)
  have z : zw D [(md, .inr (5, [.ref q_1, .ref q_3, .ref q_5, .ref q_7, .ref q_9, .ref q_11, .ref q_13, .ref q_15, .ref q_17, .ref q_19, .ref q_21, .ref q_23, .ref q_25, .ref q_27, .null, .int 0, .int 0, .int 0])), (q_1, .inl (cA_2, 12000, .inl (fun _ => 0))), (q_3, .inl (cA_4, 12000, .inl (fun _ => 0))), (q_5, .inl (cA_6, 12000, .inl (fun _ => 0))), (q_7, .inl (cA_8, 200, .inl (fun _ => 0))), (q_9, .inl (cA_10, 200, .inl (fun _ => 0))), (q_11, .inl (cA_12, 200, .inl (fun _ => 0))), (q_13, .inl (cA_14, 200, .inl (fun _ => 0))), (q_15, .inl (cA_16, 200, .inl (fun _ => 0))), (q_17, .inl (cA_18, 200, .inl (fun _ => 0))), (q_19, .inl (cA_20, 200, .inl (fun _ => 0))), (q_21, .inl (cA_22, 200, .inl (fun _ => 0))), (q_23, .inl (cA_24, 60, .inl (fun _ => 0))), (q_25, .inl (cA_26, 60, .inl (fun _ => 0))), (q_27, .inl (cA_28, 60, .inl (fun _ => 0)))] [(cA_2, .int), (cA_4, .int), (cA_6, .int), (cA_8, .int), (cA_10, .int), (cA_12, .int), (cA_14, .int), (cA_16, .int), (cA_18, .int), (cA_20, .int), (cA_22, .int), (cA_24, .int), (cA_26, .int), (cA_28, .boolean)] A s.heap s H locs := z
  refine lv_aload_n hx hb dX5_init_127 rfl (lv_at hl 0 rfl) ?_
  refine lv_sipush (v := 1600) hx hb dX5_init_128 (by decide) ?_
  refine z_newa (atype := .int) (ty := .int) (a0 := (1600, .inl (fun _ => 0))) hx hb hts (show Cond.arrayClass .int ∈ wsX5_init by decide +kernel) rfl z (fun _ => rfl) (by decide) (by decide) (by decide) (cells' := 15) (slots' := 39380) (Nat.le_of_ble_eq_true rfl) (Nat.le_of_ble_eq_true rfl) rfl rfl dX5_init_131 (fun q_29 cA_30 H z => ?_)
  have z : zw D [(md, .inr (5, [.ref q_1, .ref q_3, .ref q_5, .ref q_7, .ref q_9, .ref q_11, .ref q_13, .ref q_15, .ref q_17, .ref q_19, .ref q_21, .ref q_23, .ref q_25, .ref q_27, .null, .int 0, .int 0, .int 0])), (q_1, .inl (cA_2, 12000, .inl (fun _ => 0))), (q_3, .inl (cA_4, 12000, .inl (fun _ => 0))), (q_5, .inl (cA_6, 12000, .inl (fun _ => 0))), (q_7, .inl (cA_8, 200, .inl (fun _ => 0))), (q_9, .inl (cA_10, 200, .inl (fun _ => 0))), (q_11, .inl (cA_12, 200, .inl (fun _ => 0))), (q_13, .inl (cA_14, 200, .inl (fun _ => 0))), (q_15, .inl (cA_16, 200, .inl (fun _ => 0))), (q_17, .inl (cA_18, 200, .inl (fun _ => 0))), (q_19, .inl (cA_20, 200, .inl (fun _ => 0))), (q_21, .inl (cA_22, 200, .inl (fun _ => 0))), (q_23, .inl (cA_24, 60, .inl (fun _ => 0))), (q_25, .inl (cA_26, 60, .inl (fun _ => 0))), (q_27, .inl (cA_28, 60, .inl (fun _ => 0))), (q_29, .inl (cA_30, 1600, .inl (fun _ => 0)))] [(cA_2, .int), (cA_4, .int), (cA_6, .int), (cA_8, .int), (cA_10, .int), (cA_12, .int), (cA_14, .int), (cA_16, .int), (cA_18, .int), (cA_20, .int), (cA_22, .int), (cA_24, .int), (cA_26, .int), (cA_28, .boolean), (cA_30, .int)] A s.heap s H locs := z
  refine z_putF (v := .ref q_29) (C := RX5) (T := TX5) (N := 18) hx hb hts hiX5 tyX5 tyX5_ok nmX5 hown hin z 0 rfl rfl 14 (by decide) (show Cond.fieldLink RX5 55 "GainTrees$Rules" "arrived" "[I" ∈ wsX5_init by decide +kernel) rfl rfl rfl rfl rfl (Nat.le_of_ble_eq_true rfl) dX5_init_133 (fun H locs z => ?_)
  have z : zw D [(md, .inr (5, [.ref q_1, .ref q_3, .ref q_5, .ref q_7, .ref q_9, .ref q_11, .ref q_13, .ref q_15, .ref q_17, .ref q_19, .ref q_21, .ref q_23, .ref q_25, .ref q_27, .ref q_29, .int 0, .int 0, .int 0])), (q_1, .inl (cA_2, 12000, .inl (fun _ => 0))), (q_3, .inl (cA_4, 12000, .inl (fun _ => 0))), (q_5, .inl (cA_6, 12000, .inl (fun _ => 0))), (q_7, .inl (cA_8, 200, .inl (fun _ => 0))), (q_9, .inl (cA_10, 200, .inl (fun _ => 0))), (q_11, .inl (cA_12, 200, .inl (fun _ => 0))), (q_13, .inl (cA_14, 200, .inl (fun _ => 0))), (q_15, .inl (cA_16, 200, .inl (fun _ => 0))), (q_17, .inl (cA_18, 200, .inl (fun _ => 0))), (q_19, .inl (cA_20, 200, .inl (fun _ => 0))), (q_21, .inl (cA_22, 200, .inl (fun _ => 0))), (q_23, .inl (cA_24, 60, .inl (fun _ => 0))), (q_25, .inl (cA_26, 60, .inl (fun _ => 0))), (q_27, .inl (cA_28, 60, .inl (fun _ => 0))), (q_29, .inl (cA_30, 1600, .inl (fun _ => 0)))] [(cA_2, .int), (cA_4, .int), (cA_6, .int), (cA_8, .int), (cA_10, .int), (cA_12, .int), (cA_14, .int), (cA_16, .int), (cA_18, .int), (cA_20, .int), (cA_22, .int), (cA_24, .int), (cA_26, .int), (cA_28, .boolean), (cA_30, .int)] A s.heap s H locs := z
  exact z_vret hx hb hr hlocks z (fun t h => ⟨q_1, q_3, q_5, q_7, q_9, q_11, q_13, q_15, q_17, q_19, q_21, q_23, q_25, q_27, q_29, h.sub [0] [] (by decide) rfl rfl⟩) (Nat.le_of_ble_eq_true rfl) (Nat.le_of_ble_eq_true rfl) dX5_init_136

set_option maxHeartbeats 4000000 in
set_option maxRecDepth 100000 in
/-- Tree.leaves, of none -/
theorem c_X9_leaves (l : Launch) (D : va_G) (sz : Nat) (gw : Nat) (gw_0 : Nat) (gw_1 : Nat) (gw_2 : Nat) (gw_3 : Nat) (gw_4 : Nat) (gw_5 : Nat) (gw_6 : Nat) (gw_7 : Nat) (gw_8 : Nat) (gw_9 : Nat) (gw_10 : Nat) (gw_11 : Nat) (gw_12 : Nat) : Met l yX9_leaves wsX9_leaves ({ frames := 0, cells := 0, slots := 0, locals := 0 }) (va_Pc [.ref gw] (zI D [(gw, .inr (9, [.ref gw_0, .ref gw_1, .ref gw_2, .ref gw_3, .ref gw_4, .ref gw_5, .ref gw_6, .ref gw_7, .ref gw_8, .ref gw_9, .ref gw_10, .ref gw_11, .ref gw_12, .int 0]))] [] sz)) (va_Qi (fun (r : Int32) (_ : Unit) => 0 = r) (fun _ t => zB D (va_A [(gw, .inr (9, [.ref gw_0, .ref gw_1, .ref gw_2, .ref gw_3, .ref gw_4, .ref gw_5, .ref gw_6, .ref gw_7, .ref gw_8, .ref gw_9, .ref gw_10, .ref gw_11, .ref gw_12, .int 0]))] sz) [] [] t) (va_A [(gw, .inr (9, [.ref gw_0, .ref gw_1, .ref gw_2, .ref gw_3, .ref gw_4, .ref gw_5, .ref gw_6, .ref gw_7, .ref gw_8, .ref gw_9, .ref gw_10, .ref gw_11, .ref gw_12, .int 0]))] sz)) 0 0 (va_A [(gw, .inr (9, [.ref gw_0, .ref gw_1, .ref gw_2, .ref gw_3, .ref gw_4, .ref gw_5, .ref gw_6, .ref gw_7, .ref gw_8, .ref gw_9, .ref gw_10, .ref gw_11, .ref gw_12, .int 0]))] sz) := by
  refine Met.ofW (cc := cX9_leaves) (maxL := 3) (ret := (some .int)) (by decide) rfl ?_
  intro p e s m args below meth c s₁ B hml hv
  obtain ⟨rfl, hv⟩ := hv
  have hx := B.exec
  have hb := B.bytes
  have hr := B.returns
  have hts := atoms_spec (ws := wsX9_leaves) B.pre
  have hown : s.vm.findClass RX9 = some m.cls := findClass_of_methodNamed B.named
  have hlocks := B.notSynchronized
  have hiX9 : ∀ w ∈ u_ws RX9 TX9 14, w ∈ wsX9_leaves := (fun _ h => List.mem_cons_of_mem _ (List.mem_append_right _ h))
  obtain ⟨hsz, z⟩ := hv.start
  clear hv
  subst hsz
  generalize va_A [(gw, .inr (9, [.ref gw_0, .ref gw_1, .ref gw_2, .ref gw_3, .ref gw_4, .ref gw_5, .ref gw_6, .ref gw_7, .ref gw_8, .ref gw_9, .ref gw_10, .ref gw_11, .ref gw_12, .int 0]))] s.heap.size = A at z ⊢
  have hl := lv_entry ([.ref gw]) (n := 3) (Nat.le_of_ble_eq_true rfl)
  rw [lg_entry_eq]
  generalize (lg_sl ([.ref gw]) ++ List.replicate (3 - (lg_sl ([.ref gw])).length) Slot.unset).toArray = ls at hl ⊢
  have hl : lv_has ls 3 [(0, .ref gw)] := hl
  refine z_begin z (fun H locs z => ?_)
  refine lv_iconst (v := 0) hx hb dX9_leaves_0 (by decide) ?_
  refine lv_istore_n (lv' := [(1, .int 0), (0, .ref gw)]) hx hb dX9_leaves_1 rfl hl (by decide) rfl (fun ls hl => ?_)
  refine lv_iconst (v := 0) hx hb dX9_leaves_2 (by decide) ?_
  refine lv_istore_n (lv' := [(2, .int 0), (1, .int 0), (0, .ref gw)]) hx hb dX9_leaves_3 rfl hl (by decide) rfl (fun ls hl => ?_)
  refine lv_iload_n hx hb dX9_leaves_4 rfl (lv_at hl 0 rfl) ?_
  refine lv_aload_n hx hb dX9_leaves_5 rfl (lv_at hl 2 rfl) ?_
  refine z_get (v := .int 0) (C := RX9) (T := TX9) (N := 14) hx hb hts hiX9 hown z 0 rfl rfl 13 (by decide) (show Cond.fieldLink RX9 52 "GainTrees$Tree" "nodes" "I" ∈ wsX9_leaves by decide +kernel) rfl rfl dX9_leaves_6 ?_
  refine lv_icmp_ge (tgt := 30) hx hb dX9_leaves_9 (by decide) (fun c_1 => ?_) (fun c_1 => absurd (Int32.not_le.mp c_1) (by decide))
  refine lv_iload_n hx hb dX9_leaves_30 rfl (lv_at hl 1 rfl) ?_
  exact z_iret hx hb hr hlocks z (rfl) (fun t h => h.sub [] [] (by decide) rfl rfl) (Nat.le_of_ble_eq_true rfl) (Nat.le_of_ble_eq_true rfl) dX9_leaves_31
end
