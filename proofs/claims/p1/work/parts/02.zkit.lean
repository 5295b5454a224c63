/-! Rows of this claim's own over the kit's: a world and what goes with it in one hypothesis (zw); calls and ends over it. -/
-- the text constants that are used: class, place in its pool, text
def zStrs : List (String × Nat × String) := [(RX4, 81, "classes"), (RX11, 331, "training is 0, holdout is 1"), (RX11, 339, "there are no names"), (RX11, 158, "no such row or attribute"), (RX11, 333, "modes are 0 to 2"), (RX11, 335, "least is 1 to 20, depth 0 to 60"), (RX11, 342, "training has too few rows"), (RX11, 344, "there is no tree"), (RX11, 348, "no such node"), (RX11, 225, "a node has nothing of that number"), (RX11, 354, "no row of training comes to the node"), (RX11, 356, "no such attribute"), (RX11, 244, "a split has nothing of that number"), (RX11, 305, "the tree is 0, the rules are 1"), (RX11, 346, "rules were not made of the tree"), (RX11, 268, "folds are 2 to 10"), (RX11, 281, "no such rule"), (RX11, 287, "no such condition"), (RX11, 291, "the rule has fewer conditions")]
-- the exceptions that are thrown; those that a handler of another doesn't take
def zExcs : List String := ["java/lang/IllegalArgumentException", "java/lang/IllegalStateException", "java/util/NoSuchElementException"]
def zNcs : List (String × String) := [("java/lang/IllegalStateException", "java/lang/IllegalArgumentException"), ("java/util/NoSuchElementException", "java/lang/IllegalArgumentException")]
-- the private constructors that another class of the nest calls
def zNests : List (String × Nat × MethodName) := [(RX11, 59, yX7_init), (RX11, 69, yX5_init), (RX11, 76, yX2_init), (RX11, 86, yX9_init), (RX1, 38, yX7_init), (RX6, 23, yX3_init)]
-- what holds of the machine all along: the texts are there; an exception is of its own class, and of no other of them
def zE (U : State) : Prop := (∀ q ∈ zStrs, ∃ sa : Nat, vk_R q.1 q.2.1 q.2.2 sa U) ∧ (∀ C ∈ zExcs, (Cond.castable C C).before #[] U = true) ∧ (∀ q ∈ zNcs, va_Nc q.1 q.2 U) ∧ va_AO RX7 U ∧ ∀ q ∈ zNests, va_Nw (.methodLinkNest q.1 q.2.1 q.2.2 RX11) U
theorem z_castable {C : String} {s U : State} (hW : s.vm.Alike U.vm) (h : (Cond.castable C C).before #[] s = true) : (Cond.castable C C).before #[] U = true :=
  va_tabs (u := s.setVm U.vm) rfl rfl ((Cond.castable_setVm (args := #[]) hW C C).trans h)
theorem zE.same {u U : State} (hv : U.vm = u.vm) (h : zE u) : zE U := ⟨fun q hq => let ⟨sa, hs⟩ := h.1 q hq; ⟨sa, vk_R.same hv hs⟩, fun C hC => va_tabs (u := u) rfl hv.symm (h.2.1 C hC), fun q hq => va_Nc.moved (by rw [hv]; exact Vm.Alike.refl _) (h.2.2.1 q hq), va_AO.moved (by rw [hv]; exact Vm.Alike.refl _) h.2.2.2.1, fun q hq => va_Nw.same rfl hv.symm (h.2.2.2.2 q hq)⟩
theorem zE.warm {s U : State} (hW : s.WarmedH U.vm) (h : zE s) : zE U := ⟨fun q hq => let ⟨sa, hs⟩ := h.1 q hq; ⟨sa, vk_R.warm hW hs⟩, fun C hC => z_castable hW.alike (h.2.1 C hC), fun q hq => va_Nc.moved hW.alike (h.2.2.1 q hq), va_AO.moved hW.alike h.2.2.2.1, fun q hq => va_Nw.warmM hW (h.2.2.2.2 q hq)⟩
-- the two statics of Throwable lie outside A
def zT (A : Nat → Prop) (U : State) (H : Heap) : Prop := vx_Zq Bundle.tN "UNASSIGNED_STACK" Bundle.steD A U H ∧ vx_Zq Bundle.tN "SUPPRESSED_SENTINEL" Bundle.listD A U H
theorem zT.moved {A : Nat → Prop} {u U : State} {H : Heap} (hvm : u.vm.Alike U.vm) (h : zT A u H) : zT A U H := ⟨h.1.moved hvm, h.2.moved hvm⟩
theorem zT.kept {A : Nat → Prop} {U : State} {H H1 : Heap} (h : zT A U H) (hq : ∀ a : Nat, a < H.size → ¬ A a → H1[a]? = H[a]?) : zT A U H1 := ⟨h.1.kept hq, h.2.kept hq⟩
theorem zT.narrow {A B : Nat → Prop} {U : State} {H : Heap} (h : zT A U H) (hAB : ∀ q, B q → A q) : zT B U H := ⟨h.1.narrow hAB, h.2.narrow hAB⟩
/-- a method's start: the world ws, the arrays' kinds tys, a heap of sz -/
def zI (D : va_G) (ws : va_W) (tys : List (ClassId × FieldType)) (sz : Nat) (U : State) : Prop :=
  U.heap.size = sz ∧ va_P D vwCl ws U.heap ∧ va_K D vwCl tys U ∧ va_D (fun _ => True) ws ∧ zE U ∧ zT (va_A ws sz) U U.heap
/-- behind it -/
def zB (D : va_G) (A : Nat → Prop) (ws : va_W) (tys : List (ClassId × FieldType)) (t : State) : Prop := va_P D vwCl ws t.heap ∧ va_K D vwCl tys t ∧ va_D A ws
/-- amid it -/
def zw (D : va_G) (ws : va_W) (tys : List (ClassId × FieldType)) (A : Nat → Prop) (H0 : Heap) (s : State) (H : Heap) (locs : List Loc) : Prop :=
  va_K D vwCl tys s ∧ va_P D vwCl ws H ∧ va_D A ws ∧ va_S A H0 H locs ∧ (∀ q, H0.size ≤ q → A q) ∧ zE s ∧ zT A s H0
theorem zI.blind {D : va_G} {ws : va_W} {tys : List (ClassId × FieldType)} {sz : Nat} {U : State} {g : JFrame} {mk : MethodId} {a : Array Value} (h : zI D ws tys sz U) : zI D ws tys sz (U.calling g mk a) :=
  ⟨h.1, h.2.1, va_K.moved (u := U) (U := U.calling g mk a) (Vm.Alike.refl U.vm) h.2.2.1, h.2.2.2.1, zE.same (u := U) rfl h.2.2.2.2.1, zT.moved (u := U) (U := U.calling g mk a) (Vm.Alike.refl U.vm) h.2.2.2.2.2⟩
theorem zI.start {D : va_G} {ws : va_W} {tys : List (ClassId × FieldType)} {sz : Nat} {s : State} (h : zI D ws tys sz s) : s.heap.size = sz ∧ zw D ws tys (va_A ws sz) s.heap s s.heap [] := by
  obtain ⟨rfl, hP, hK, hD, hE, hT⟩ := h
  exact ⟨rfl, hK, hP, hD.self, va_S.rf, fun q h => Or.inr h, hE, hT⟩
theorem z_fm {α β : Type} {f : α → Option β} {is : List α} {l : List β} (h : is.map f = l.map some) : is.filterMap f = l := by
  induction is generalizing l with
  | nil => cases l with
    | nil => rfl
    | cons b r => simp at h
  | cons a t ih => cases l with
    | nil => simp at h
    | cons b r =>
      rw [List.map_cons, List.map_cons] at h
      obtain ⟨h1, h2⟩ := List.cons.inj h
      rw [List.filterMap_cons, h1]
      exact congrArg (b :: ·) (ih h2)
section ZW
variable {D : va_G} {ws : va_W} {tys : List (ClassId × FieldType)} {A : Nat → Prop} {H0 : Heap} {s : State} {H : Heap} {locs : List Loc}
theorem zw.sub (z : zw D ws tys A H0 s H locs) {ws' : va_W} {tys' : List (ClassId × FieldType)} (is it : List Nat) (hn : va_nd is = true) (hs : is.map (fun i => ws[i]?) = ws'.map some) (ht : it.filterMap (fun i => tys[i]?) = tys') : zw D ws' tys' A H0 s H locs :=
  ⟨z.1.sub it ht, z.2.1.sub is (z_fm hs), z.2.2.1.sub is hn hs, z.2.2.2.1, z.2.2.2.2.1, z.2.2.2.2.2.1, z.2.2.2.2.2.2⟩
theorem zw.B (z : zw D ws tys A s.heap s H locs) {t : State} (ht : t.heap = H) (hvm : s.vm.Alike t.vm) : zB D A ws tys t := ⟨by rw [ht]; exact z.2.1, va_K.moved hvm z.1, z.2.2.1⟩
/-- what a callee finds -/
theorem zw.I (z : zw D ws tys A H0 s H locs) {wc : va_W} {tysC : List (ClassId × FieldType)} (isC itC : List Nat) (hC : isC.map (fun i => ws[i]?) = wc.map some) (hnC : va_nd isC = true) (hT : itC.filterMap (fun i => tys[i]?) = tysC) {U : State} (hU : U.heap = H) (hW : s.WarmedH U.vm) : zI D wc tysC H.size U := by
  obtain ⟨hK, hP, hD, hS, hA, hE, hT0⟩ := z
  exact ⟨by rw [hU], by rw [hU]; exact hP.sub isC (z_fm hC), va_K.moved hW.alike (hK.sub itC hT), (hD.sub isC hnC hC).weaken (fun _ _ _ _ => trivial), zE.warm hW hE, by rw [hU]; exact zT.moved hW.alike ((hT0.kept hS.2.1).narrow (va_free hD hS hA isC hC))⟩
theorem z_preS (z : zw D ws tys A H0 s H locs) {wc : va_W} {tysC : List (ClassId × FieldType)} {As : List Value} (isC itC : List Nat) (hC : isC.map (fun i => ws[i]?) = wc.map some) (hnC : va_nd isC = true) (hT : itC.filterMap (fun i => tys[i]?) = tysC) : PreS s H (va_Pc As (zI D wc tysC H.size)) As :=
  ⟨fun _ _ _ _ q => ⟨q.1, q.2.blind⟩, fun _ hU hW => ⟨rfl, z.I isC itC hC hnC hT hU hW⟩⟩
theorem z_preV (z : zw D ws tys A H0 s H locs) {wc : va_W} {tysC : List (ClassId × FieldType)} {As : List Value} {b ci : Nat} {fs : List Value} {q : vw_C} (isC itC : List Nat) (hC : isC.map (fun i => ws[i]?) = wc.map some) (hnC : va_nd isC = true) (hT : itC.filterMap (fun i => tys[i]?) = tysC) (q0 : Nat) (he : ws[q0]? = some (b, .inr (ci, fs))) (hc : vwCl[ci]? = some q) : PreV s H q.1 b (va_Pc (.ref b :: As) (zI D wc tysC H.size)) As :=
  ⟨fun _ _ _ _ q => ⟨q.1, q.2.blind⟩, va_recv z.1 z.2.1 hc he, fun _ hU hW => ⟨rfl, z.I isC itC hC hnC hT hU hW⟩⟩
theorem zw.free (z : zw D ws tys A H0 s H locs) {wc : va_W} (isC : List Nat) (hC : isC.map (fun i => ws[i]?) = wc.map some) : ∀ q, va_A wc H.size q → A q := va_free z.2.2.1 z.2.2.2.1 z.2.2.2.2.1 isC hC
theorem zw.join (z : zw D ws tys A H0 s H locs) {wc wr : va_W} {H1 : Heap} {locs1 : List Loc} {t : State} (isC isR : List Nat) (hC : isC.map (fun i => ws[i]?) = wc.map some) (hR : isR.map (fun i => ws[i]?) = wr.map some) (hn : va_nd isR = true) (hdis : ∀ i ∈ isR, i ∉ isC)
    (ht : t.heap = H1) (hvm : s.vm.Alike t.vm) (hk1 : ∀ q : Nat, q < H.size → ¬ va_A wc H.size q → H1[q]? = H[q]?) (hS1 : va_S A H0 H1 locs1) {w1 : va_W} {tys1 : List (ClassId × FieldType)} (h : zB D (va_A wc H.size) w1 tys1 t) : zw D (wr ++ w1) (tys ++ tys1) A H0 s H1 locs1 := by
  obtain ⟨hP1, hK1, hD1⟩ := h
  rw [ht] at hP1
  obtain ⟨hP, hD⟩ := va_join z.2.1 z.2.2.1 isC isR hC hR hn hdis hk1 (z.free isC hC) hP1 hD1
  exact ⟨z.1.app (va_K.moved hvm.symm hK1), hP, hD, hS1, z.2.2.2.2.1, z.2.2.2.2.2.1, z.2.2.2.2.2.2⟩
/-- behind a throw: the caller's other cells -/
theorem zw.left (z : zw D ws tys A H0 s H locs) {wc wr : va_W} {H1 : Heap} {locs1 : List Loc} (isC isR : List Nat) (hC : isC.map (fun i => ws[i]?) = wc.map some) (hR : isR.map (fun i => ws[i]?) = wr.map some) (hn : va_nd isR = true) (hdis : ∀ i ∈ isR, i ∉ isC)
    (hk1 : ∀ q : Nat, q < H.size → ¬ va_A wc H.size q → H1[q]? = H[q]?) (hS1 : va_S A H0 H1 locs1) : zw D wr tys A H0 s H1 locs1 := by
  obtain ⟨hP, hD⟩ := va_join (w1 := []) z.2.1 z.2.2.1 isC isR hC hR hn hdis hk1 (z.free isC hC) (fun k q h => by simp at h) ⟨fun i j p q h => by simp at h, fun k q h => by simp at h⟩
  rw [List.append_nil] at hP hD
  exact ⟨z.1, hP, hD, hS1, z.2.2.2.2.1, z.2.2.2.2.2.1, z.2.2.2.2.2.2⟩
end ZW
section ZR
variable {p : Program} {l : Launch} {e : Env} {R : Room} {s : State} {m : MethodId} {args : Array Value} {below : List Frame} {meth : Method} {c : Code} {H : Heap} {locs : List Loc} {cells slots : Nat} {Q : State → Prop}
variable {pc : Nat} {ls : Array Slot} {rest st0 : List Value} {a : Array Value} {A : Nat → Prop} {H0 : Heap} {mc ms : Nat}
variable {D : va_G} {ws : va_W} {tys : List (ClassId × FieldType)} {cc : ByteArray}
theorem z_begin {g : JFrame} (z : zw D ws tys A H0 s H locs) (k : ∀ (H : Heap) (locs : List Loc), zw D ws tys A H0 s H locs → W p l e R s m args below meth c H locs cells slots Q g) : W p l e R s m args below meth c H locs cells slots Q g := k _ _ z
/-- the top by another name -/
theorem z_ti {x y : Int32} (h : x = y) (k : W p l e R s m args below meth c H locs cells slots Q (F0 m pc ls (.int y :: rest))) : W p l e R s m args below meth c H locs cells slots Q (F0 m pc ls (.int x :: rest)) := by rw [h]; exact k
theorem z_tl {x y : Int64} (h : x = y) (k : W p l e R s m args below meth c H locs cells slots Q (F0 m pc ls (.long y :: rest))) : W p l e R s m args below meth c H locs cells slots Q (F0 m pc ls (.long x :: rest)) := by rw [h]; exact k
theorem z_ai {x : Int32} (k : ∀ y : Int32, W p l e R s m args below meth c H locs cells slots Q (F0 m pc ls (.int y :: rest))) : W p l e R s m args below meth c H locs cells slots Q (F0 m pc ls (.int x :: rest)) := k x
theorem z_al {x : Int64} (k : ∀ y : Int64, W p l e R s m args below meth c H locs cells slots Q (F0 m pc ls (.long y :: rest))) : W p l e R s m args below meth c H locs cells slots Q (F0 m pc ls (.long x :: rest)) := k x
theorem z_calli {P : Int32 → Prop} {B : State → Prop} {wc wr : va_W} (z : zw D ws tys A H0 s H locs) (isC isR : List Nat) (hC : isC.map (fun i => ws[i]?) = wc.map some) (hR : isR.map (fun i => ws[i]?) = wr.map some) (hn : va_nd isR = true) (hdis : ∀ i ∈ isR, i ∉ isC)
    (hr : va_Run p l e R s m args below meth c H locs cells slots mc ms (F0 m pc ls st0) rest (va_Qi (fun r (_ : Unit) => P r) (fun _ t => B t) (va_A wc H.size) a) (va_A wc H.size))
    (kk : ∀ (r : Int32) (t : State) (H1 : Heap) (locs1 : List Loc), P r → B t → (∀ {w1 : va_W} {tys1 : List (ClassId × FieldType)}, zB D (va_A wc H.size) w1 tys1 t → zw D (wr ++ w1) (tys ++ tys1) A H0 s H1 locs1) → W p l e R s m args below meth c H1 locs1 (cells + mc) (slots + ms) Q (F0 m (pc + 3) ls (.int r :: rest))) : W p l e R s m args below meth c H locs cells slots Q (F0 m pc ls st0) :=
  va_calli hr z.2.2.2.1 (fun q _ h => z.free isC hC q h) (z.free isC hC) (fun r _ t H1 locs1 ht hvm hw hB _ hk1 hS => kk r t H1 locs1 hw hB (fun h => z.join isC isR hC hR hn hdis ht hvm hk1 hS h))
theorem z_calll {P : Int64 → Prop} {B : State → Prop} {wc wr : va_W} (z : zw D ws tys A H0 s H locs) (isC isR : List Nat) (hC : isC.map (fun i => ws[i]?) = wc.map some) (hR : isR.map (fun i => ws[i]?) = wr.map some) (hn : va_nd isR = true) (hdis : ∀ i ∈ isR, i ∉ isC)
    (hr : va_Run p l e R s m args below meth c H locs cells slots mc ms (F0 m pc ls st0) rest (va_Ql (fun r (_ : Unit) => P r) (fun _ t => B t) (va_A wc H.size) a) (va_A wc H.size))
    (kk : ∀ (r : Int64) (t : State) (H1 : Heap) (locs1 : List Loc), P r → B t → (∀ {w1 : va_W} {tys1 : List (ClassId × FieldType)}, zB D (va_A wc H.size) w1 tys1 t → zw D (wr ++ w1) (tys ++ tys1) A H0 s H1 locs1) → W p l e R s m args below meth c H1 locs1 (cells + mc) (slots + ms) Q (F0 m (pc + 3) ls (.long r :: rest))) : W p l e R s m args below meth c H locs cells slots Q (F0 m pc ls st0) :=
  va_calll hr z.2.2.2.1 (fun q _ h => z.free isC hC q h) (z.free isC hC) (fun r _ t H1 locs1 ht hvm hw hB _ hk1 hS => kk r t H1 locs1 hw hB (fun h => z.join isC isR hC hR hn hdis ht hvm hk1 hS h))
theorem z_callv {B : State → Prop} {wc wr : va_W} (z : zw D ws tys A H0 s H locs) (isC isR : List Nat) (hC : isC.map (fun i => ws[i]?) = wc.map some) (hR : isR.map (fun i => ws[i]?) = wr.map some) (hn : va_nd isR = true) (hdis : ∀ i ∈ isR, i ∉ isC)
    (hr : va_Run p l e R s m args below meth c H locs cells slots mc ms (F0 m pc ls st0) rest (va_Qv (fun (_ : Unit) => True) (fun _ t => B t) (va_A wc H.size) a) (va_A wc H.size))
    (kk : ∀ (t : State) (H1 : Heap) (locs1 : List Loc), B t → (∀ {w1 : va_W} {tys1 : List (ClassId × FieldType)}, zB D (va_A wc H.size) w1 tys1 t → zw D (wr ++ w1) (tys ++ tys1) A H0 s H1 locs1) → W p l e R s m args below meth c H1 locs1 (cells + mc) (slots + ms) Q (F0 m (pc + 3) ls rest)) : W p l e R s m args below meth c H locs cells slots Q (F0 m pc ls st0) :=
  va_callv hr z.2.2.2.1 (fun q _ h => z.free isC hC q h) (z.free isC hC) (fun _ t H1 locs1 ht hvm _ hB _ hk1 hS => kk t H1 locs1 hB (fun h => z.join isC isR hC hR hn hdis ht hvm hk1 hS h))
theorem z_callr {P : Nat → Prop} {B : State → Prop} {wc wr : va_W} (z : zw D ws tys A H0 s H locs) (isC isR : List Nat) (hC : isC.map (fun i => ws[i]?) = wc.map some) (hR : isR.map (fun i => ws[i]?) = wr.map some) (hn : va_nd isR = true) (hdis : ∀ i ∈ isR, i ∉ isC)
    (hr : va_Run p l e R s m args below meth c H locs cells slots mc ms (F0 m pc ls st0) rest (va_Qr (fun (_ : Unit) => True) (fun _ r t => P r ∧ B t) (va_A wc H.size) a) (va_A wc H.size))
    (kk : ∀ (r : Nat) (t : State) (H1 : Heap) (locs1 : List Loc), P r → B t → (∀ {w1 : va_W} {tys1 : List (ClassId × FieldType)}, zB D (va_A wc H.size) w1 tys1 t → zw D (wr ++ w1) (tys ++ tys1) A H0 s H1 locs1) → W p l e R s m args below meth c H1 locs1 (cells + mc) (slots + ms) Q (F0 m (pc + 3) ls (.ref r :: rest))) : W p l e R s m args below meth c H locs cells slots Q (F0 m pc ls st0) :=
  va_callr hr z.2.2.2.1 (fun q _ h => z.free isC hC q h) (z.free isC hC) (fun _ r t H1 locs1 ht hvm _ hB _ hk1 hS => kk r t H1 locs1 hB.1 hB.2 (fun h => z.join isC isR hC hR hn hdis ht hvm hk1 hS h))
/-- what a thrown exception is, in every contract here -/
abbrev zX (PX : String → Prop) (A : Nat → Prop) : String → State → State → Prop := vx_X (fun _ : Unit => True) (fun E _ _ => PX E) A
/-- a call that returns or throws; what is thrown goes on to the caller -/
theorem z_xcalli {P : Int32 → Prop} {PX PX' : String → Prop} {B : State → Prop} {wc wr : va_W} {Qc : Array Value → State → Outcome → State → Prop} {mc' ms' : Nat} (z : zw D ws tys A s.heap s H locs) (hout : ∀ x ∈ c.exceptionTable.toList, False) (hlocks : meth.locks = false) (hpx : ∀ E, PX E → PX' E) (hc9 : cells + mc ≤ mc') (hs9 : slots + ms ≤ ms') (isC isR : List Nat) (hC : isC.map (fun i => ws[i]?) = wc.map some) (hR : isR.map (fun i => ws[i]?) = wr.map some) (hn : va_nd isR = true) (hdis : ∀ i ∈ isR, i ∉ isC)
    (hr : vx_Run p l e R s m args below meth c H locs cells slots mc ms (F0 m pc ls st0) rest (va_Qi (fun r (_ : Unit) => P r) (fun _ t => B t) (va_A wc H.size) a) (zX PX (va_A wc H.size)) (va_A wc H.size))
    (kk : ∀ (r : Int32) (t : State) (H1 : Heap) (locs1 : List Loc), P r → B t → (∀ {w1 : va_W} {tys1 : List (ClassId × FieldType)}, zB D (va_A wc H.size) w1 tys1 t → zw D (wr ++ w1) (tys ++ tys1) A s.heap s H1 locs1) → W p l e R s m args below meth c H1 locs1 (cells + mc) (slots + ms) (vx_MQ below Qc (zX PX' A) args s mc' ms' A) (F0 m (pc + 3) ls (.int r :: rest))) : W p l e R s m args below meth c H locs cells slots (vx_MQ below Qc (zX PX' A) args s mc' ms' A) (F0 m pc ls st0) :=
  vx_calli hr z.2.2.2.1 (fun q _ h => z.free isC hC q h) (z.free isC hC) (fun q _ h => z.free isC hC q h)
    (fun E ce q9 _ t H1 locs1 ht hvm _ hB _ _ hS hce hcv hcl => vx_out (fun x hx => (hout x hx).elim) hlocks hce hcv hcl (fun t9 h9 _ => ⟨(), trivial, hpx E hB, hS.F h9⟩) hS.2.2 hc9 hs9)
    (fun r _ t H1 locs1 ht hvm hw hB _ hk1 hS => kk r t H1 locs1 hw hB (fun h => z.join isC isR hC hR hn hdis ht hvm hk1 hS h))
theorem z_xcallv {PX PX' : String → Prop} {B : State → Prop} {wc wr : va_W} {Qc : Array Value → State → Outcome → State → Prop} {mc' ms' : Nat} (z : zw D ws tys A s.heap s H locs) (hout : ∀ x ∈ c.exceptionTable.toList, False) (hlocks : meth.locks = false) (hpx : ∀ E, PX E → PX' E) (hc9 : cells + mc ≤ mc') (hs9 : slots + ms ≤ ms') (isC isR : List Nat) (hC : isC.map (fun i => ws[i]?) = wc.map some) (hR : isR.map (fun i => ws[i]?) = wr.map some) (hn : va_nd isR = true) (hdis : ∀ i ∈ isR, i ∉ isC)
    (hr : vx_Run p l e R s m args below meth c H locs cells slots mc ms (F0 m pc ls st0) rest (va_Qv (fun (_ : Unit) => True) (fun _ t => B t) (va_A wc H.size) a) (zX PX (va_A wc H.size)) (va_A wc H.size))
    (kk : ∀ (t : State) (H1 : Heap) (locs1 : List Loc), B t → (∀ {w1 : va_W} {tys1 : List (ClassId × FieldType)}, zB D (va_A wc H.size) w1 tys1 t → zw D (wr ++ w1) (tys ++ tys1) A s.heap s H1 locs1) → W p l e R s m args below meth c H1 locs1 (cells + mc) (slots + ms) (vx_MQ below Qc (zX PX' A) args s mc' ms' A) (F0 m (pc + 3) ls rest)) : W p l e R s m args below meth c H locs cells slots (vx_MQ below Qc (zX PX' A) args s mc' ms' A) (F0 m pc ls st0) :=
  vx_callv hr z.2.2.2.1 (fun q _ h => z.free isC hC q h) (z.free isC hC) (fun q _ h => z.free isC hC q h)
    (fun E ce q9 _ t H1 locs1 ht hvm _ hB _ _ hS hce hcv hcl => vx_out (fun x hx => (hout x hx).elim) hlocks hce hcv hcl (fun t9 h9 _ => ⟨(), trivial, hpx E hB, hS.F h9⟩) hS.2.2 hc9 hs9)
    (fun _ t H1 locs1 ht hvm _ hB _ hk1 hS => kk t H1 locs1 hB (fun h => z.join isC isR hC hR hn hdis ht hvm hk1 hS h))
/-- a call that returns or throws, with both ways open -/
theorem z_ycalli {P : Int32 → Prop} {PX : String → Prop} {B : State → Prop} {wc wr : va_W} (z : zw D ws tys A H0 s H locs) (isC isR : List Nat) (hC : isC.map (fun i => ws[i]?) = wc.map some) (hR : isR.map (fun i => ws[i]?) = wr.map some) (hn : va_nd isR = true) (hdis : ∀ i ∈ isR, i ∉ isC)
    (hr : vx_Run p l e R s m args below meth c H locs cells slots mc ms (F0 m pc ls st0) rest (va_Qi (fun r (_ : Unit) => P r) (fun _ t => B t) (va_A wc H.size) a) (zX PX (va_A wc H.size)) (va_A wc H.size))
    (kx : ∀ (E : String) (ce : Cell) (q9 : Addr) (H1 : Heap) (locs1 : List Loc), PX E → zw D wr tys A H0 s H1 locs1 → H1[q9]? = some ce → ce.vm = .none → s.vm.findClass E = some ce.cls → vx_W p l e R s m args below meth c H1 locs1 (cells + mc) (slots + ms) Q (F0 m pc ls rest) q9)
    (kk : ∀ (r : Int32) (t : State) (H1 : Heap) (locs1 : List Loc), P r → B t → (∀ {w1 : va_W} {tys1 : List (ClassId × FieldType)}, zB D (va_A wc H.size) w1 tys1 t → zw D (wr ++ w1) (tys ++ tys1) A H0 s H1 locs1) → W p l e R s m args below meth c H1 locs1 (cells + mc) (slots + ms) Q (F0 m (pc + 3) ls (.int r :: rest))) : W p l e R s m args below meth c H locs cells slots Q (F0 m pc ls st0) :=
  vx_calli hr z.2.2.2.1 (fun q _ h => z.free isC hC q h) (z.free isC hC) (fun q _ h => z.free isC hC q h)
    (fun E ce q9 _ t H1 locs1 ht hvm _ hB _ hk1 hS hce hcv hcl => kx E ce q9 H1 locs1 hB (z.left isC isR hC hR hn hdis hk1 hS) hce hcv hcl)
    (fun r _ t H1 locs1 ht hvm hw hB _ hk1 hS => kk r t H1 locs1 hw hB (fun h => z.join isC isR hC hR hn hdis ht hvm hk1 hS h))
-- ends
theorem z_iret {P : Int32 → Prop} {B : State → Prop} {r : Int32} (hx : p.tables.exec = Jvm.exec) (hb : c.code = cc) (hr : meth.sig.returnType = some .int) (hlocks : meth.locks = false) (z : zw D ws tys A s.heap s H locs) (hP : P r) (hB : ∀ t, zB D A ws tys t → B t) (hc : cells ≤ mc) (hs : slots ≤ ms) (hdg : decode cc pc = .ok (.ireturn, 1)) : W p l e R s m args below meth c H locs cells slots (MQ below (va_Qi (fun r (_ : Unit) => P r) (fun _ t => B t) A) args s mc ms A) (F0 m pc ls [.int r]) :=
  W.widen (k := mc) (n := ms) hc hs (W.iret (v := r) hx hb hr (fun t ht hW => ⟨⟨r, (), rfl, hP, hB t (z.B ht hW.alike)⟩, z.2.2.2.1.F ht⟩) z.2.2.2.1.2.2 hdg hlocks)
theorem z_zret {P : Int32 → Prop} {B : State → Prop} {r : Int32} {ty : FieldType} (hx : p.tables.exec = Jvm.exec) (hb : c.code = cc) (hr : meth.sig.returnType = some ty) (hnr : narrow ty (.int r) = .int r) (hlocks : meth.locks = false) (z : zw D ws tys A s.heap s H locs) (hP : P r) (hB : ∀ t, zB D A ws tys t → B t) (hc : cells ≤ mc) (hs : slots ≤ ms) (hdg : decode cc pc = .ok (.ireturn, 1)) : W p l e R s m args below meth c H locs cells slots (MQ below (va_Qi (fun r (_ : Unit) => P r) (fun _ t => B t) A) args s mc ms A) (F0 m pc ls [.int r]) :=
  W.widen (k := mc) (n := ms) hc hs (W.zret (v := r) hx hb hr hnr (fun t ht hW => ⟨⟨r, (), rfl, hP, hB t (z.B ht hW.alike)⟩, z.2.2.2.1.F ht⟩) z.2.2.2.1.2.2 hdg hlocks)
theorem z_lret {P : Int64 → Prop} {B : State → Prop} {r : Int64} (hx : p.tables.exec = Jvm.exec) (hb : c.code = cc) (hr : meth.sig.returnType = some .long) (hlocks : meth.locks = false) (z : zw D ws tys A s.heap s H locs) (hP : P r) (hB : ∀ t, zB D A ws tys t → B t) (hc : cells ≤ mc) (hs : slots ≤ ms) (hdg : decode cc pc = .ok (.lreturn, 1)) : W p l e R s m args below meth c H locs cells slots (MQ below (va_Ql (fun r (_ : Unit) => P r) (fun _ t => B t) A) args s mc ms A) (F0 m pc ls [.long r]) :=
  W.widen (k := mc) (n := ms) hc hs (W.lret (v := r) hx hb hr (fun t ht hW => ⟨⟨r, (), rfl, hP, hB t (z.B ht hW.alike)⟩, z.2.2.2.1.F ht⟩) z.2.2.2.1.2.2 hdg hlocks)
theorem z_vret {B : State → Prop} (hx : p.tables.exec = Jvm.exec) (hb : c.code = cc) (hr : meth.sig.returnType = none) (hlocks : meth.locks = false) (z : zw D ws tys A s.heap s H locs) (hB : ∀ t, zB D A ws tys t → B t) (hc : cells ≤ mc) (hs : slots ≤ ms) (hdg : decode cc pc = .ok (.return_, 1)) : W p l e R s m args below meth c H locs cells slots (MQ below (va_Qv (fun (_ : Unit) => True) (fun _ t => B t) A) args s mc ms A) (F0 m pc ls []) :=
  W.widen (k := mc) (n := ms) hc hs (W.vret hx hb hr (fun t ht hW => ⟨⟨(), rfl, trivial, hB t (z.B ht hW.alike)⟩, z.2.2.2.1.F ht⟩) z.2.2.2.1.2.2 hdg hlocks)
theorem z_aret {P : Nat → Prop} {B : State → Prop} {r : Nat} {rt : FieldType} (hx : p.tables.exec = Jvm.exec) (hb : c.code = cc) (hr : meth.sig.returnType = some rt) (hrt : (∃ n, rt = .object n) ∨ ∃ t, rt = .array t) (hlocks : meth.locks = false) (z : zw D ws tys A s.heap s H locs) (hP : P r) (hB : ∀ t, zB D A ws tys t → B t) (hc : cells ≤ mc) (hs : slots ≤ ms) (hdg : decode cc pc = .ok (.areturn, 1)) : W p l e R s m args below meth c H locs cells slots (MQ below (va_Qr (fun (_ : Unit) => True) (fun _ r t => P r ∧ B t) A) args s mc ms A) (F0 m pc ls [.ref r]) :=
  W.widen (k := mc) (n := ms) hc hs (W.aret (v := .ref r) hx hb hr hrt (Or.inr ⟨r, rfl⟩) (fun t ht hW => ⟨⟨(), r, rfl, trivial, hP, hB t (z.B ht hW.alike)⟩, z.2.2.2.1.F ht⟩) z.2.2.2.1.2.2 hdg hlocks)
end ZR
section ZF
variable {p : Program} {l : Launch} {e : Env} {R : Room} {s : State} {m : MethodId} {args : Array Value} {below : List Frame} {meth : Method} {c : Code} {H : Heap} {locs : List Loc} {cells slots : Nat} {Q : State → Prop}
variable {pc : Nat} {ls : Array Slot} {rest : List Value} {a : Nat} {A : Nat → Prop} {H0 : Heap} {mc ms : Nat}
variable {D : va_G} {ws : va_W} {tys : List (ClassId × FieldType)} {cc : ByteArray} {Ts : List Cond}
theorem zB.sub {t : State} (h : zB D A ws tys t) {ws' : va_W} {tys' : List (ClassId × FieldType)} (is it : List Nat) (hn : va_nd is = true) (hs : is.map (fun i => ws[i]?) = ws'.map some) (ht : it.filterMap (fun i => tys[i]?) = tys') : zB D A ws' tys' t := ⟨h.1.sub is (z_fm hs), h.2.1.sub it ht, h.2.2.sub is hn hs⟩
theorem z_get (hexec : p.tables.exec = Jvm.exec) (hb : c.code = cc) {own ref C : String} {T : u_T} {N ci index : Nat} (hts : ∀ w ∈ Ts, w.before args s = true) (hin : ∀ w ∈ u_ws C T N, w ∈ Ts) (hown : s.vm.findClass own = some m.cls) (z : zw D ws tys A H0 s H locs) (q0 : Nat) {fs : List Value} (he : ws[q0]? = some (a, .inr (ci, fs))) (hc : vwCl[ci]? = some (C, T, N)) (k : Nat) (hk : k < N) (hlink : Cond.fieldLink own index ref (T k).2.1 (T k).2.2.1 ∈ Ts) (hsame : (T k).1 = ref) {v : Value} (hv : fs[k]? = some v) (hdg : decode cc pc = .ok (.getfield index, 3))
    (kk : W p l e R s m args below meth c H locs cells slots Q (F0 m (pc + 3) ls (v :: rest))) : W p l e R s m args below meth c H locs cells slots Q (F0 m pc ls (.ref a :: rest)) :=
  va_get hexec hb hts hin hown z.1 z.2.1 q0 he hc k hk (hts _ hlink) (fun x h9 => by rw [← hsame]; exact h9) hv hdg kk
theorem z_put (hexec : p.tables.exec = Jvm.exec) (hb : c.code = cc) {own ref C : String} {T : u_T} {N ci index : Nat} (hts : ∀ w ∈ Ts, w.before args s = true) (hin : ∀ w ∈ u_ws C T N, w ∈ Ts) (ty0 : Nat → FieldType) (hty : ∀ k, k < N → parseFieldDescriptor (T k).2.2.1 = some (ty0 k)) (hnm : ∀ a, a < N → ∀ b, b < N → a ≠ b → (T a).2.1 ≠ (T b).2.1) (hown : s.vm.findClass own = some m.cls) (z : zw D ws tys A H0 s H locs) (q0 : Nat) {fs : List Value} (he : ws[q0]? = some (a, .inr (ci, fs))) (hc : vwCl[ci]? = some (C, T, N)) (k : Nat) (hk : k < N) (hlink : Cond.fieldLink own index ref (T k).2.1 (T k).2.2.1 ∈ Ts) (hsame : (T k).1 = ref) (hfin : (T k).2.2.2 = false) {v : Value} (hn : narrow (ty0 k) v = v) (hfit : fits (ty0 k) v = true) (hl : k < fs.length)
    (hdg : decode cc pc = .ok (.putfield index, 3)) (kk : ∀ (H1 : Heap) (locs1 : List Loc), zw D (ws.set q0 (a, .inr (ci, fs.set k v))) tys A H0 s H1 locs1 → W p l e R s m args below meth c H1 locs1 cells slots Q (F0 m (pc + 3) ls rest)) : W p l e R s m args below meth c H locs cells slots Q (F0 m pc ls (v :: .ref a :: rest)) :=
  va_put hexec hb hts hin ty0 hty hnm hown z.1 z.2.1 z.2.2.1 z.2.2.2.1 q0 he hc k hk (hts _ hlink) (fun x h9 => by rw [← hsame]; exact h9) hfin (hty k hk) hn hfit hl hdg (fun H1 locs1 hP hD hS => kk H1 locs1 ⟨z.1, hP, hD, hS, z.2.2.2.2⟩)
theorem z_putF (hexec : p.tables.exec = Jvm.exec) (hb : c.code = cc) {own ref C : String} {T : u_T} {N ci index : Nat} (hts : ∀ w ∈ Ts, w.before args s = true) (hin : ∀ w ∈ u_ws C T N, w ∈ Ts) (ty0 : Nat → FieldType) (hty : ∀ k, k < N → parseFieldDescriptor (T k).2.2.1 = some (ty0 k)) (hnm : ∀ a, a < N → ∀ b, b < N → a ≠ b → (T a).2.1 ≠ (T b).2.1) (hown : s.vm.findClass own = some m.cls) (hin2 : meth.name = "<init>") (z : zw D ws tys A H0 s H locs) (q0 : Nat) {fs : List Value} (he : ws[q0]? = some (a, .inr (ci, fs))) (hc : vwCl[ci]? = some (C, T, N)) (k : Nat) (hk : k < N) (hlink : Cond.fieldLink own index ref (T k).2.1 (T k).2.2.1 ∈ Ts) (hsame : (T k).1 = ref) (hfin : (T k).2.2.2 = true) (hdecl : (T k).1 = own) {v : Value} (hn : narrow (ty0 k) v = v) (hfit : fits (ty0 k) v = true) (hl : k < fs.length)
    (hdg : decode cc pc = .ok (.putfield index, 3)) (kk : ∀ (H1 : Heap) (locs1 : List Loc), zw D (ws.set q0 (a, .inr (ci, fs.set k v))) tys A H0 s H1 locs1 → W p l e R s m args below meth c H1 locs1 cells slots Q (F0 m (pc + 3) ls rest)) : W p l e R s m args below meth c H locs cells slots Q (F0 m pc ls (v :: .ref a :: rest)) :=
  va_putF hexec hb hts hin ty0 hty hnm hown z.1 z.2.1 z.2.2.1 z.2.2.2.1 q0 he hc k hk (hts _ hlink) (fun x h9 => by rw [← hsame]; exact h9) hfin hin2 hdecl (hty k hk) hn hfit hl hdg (fun H1 locs1 hP hD hS => kk H1 locs1 ⟨z.1, hP, hD, hS, z.2.2.2.2⟩)
theorem z_new (hexec : p.tables.exec = Jvm.exec) (hb : c.code = cc) {own C : String} {T : u_T} {N ci index : Nat} (hts : ∀ w ∈ Ts, w.before args s = true) (hin : ∀ w ∈ u_ws C T N, w ∈ Ts) (ty : Nat → FieldType) (hty : ∀ k, k < N → parseFieldDescriptor (T k).2.2.1 = some (ty k)) (hown : s.vm.findClass own = some m.cls) (hcl : Cond.classLink own index C ∈ Ts) (hinst : Cond.instantiable C N ∈ Ts) (hini : Cond.initialized C ∈ Ts)
    (z : zw D ws tys A H0 s H locs) (hc : vwCl[ci]? = some (C, T, N)) {fs : List Value} (hfs : (List.range N).map (fun j => defaultValue (ty j)) = fs) {cells' slots' : Nat} (hcells : cells + 1 ≤ R.cells) (hslots : slots + N ≤ R.slots) (hc' : cells + 1 = cells') (hs' : slots + N = slots') (hdg : decode cc pc = .ok (.new index, 3))
    (kk : ∀ (q : Nat) (H1 : Heap), zw D (ws ++ [(q, .inr (ci, fs))]) tys A H0 s H1 locs → W p l e R s m args below meth c H1 locs cells' slots' Q (F0 m (pc + 3) ls (.ref q :: rest))) : W p l e R s m args below meth c H locs cells slots Q (F0 m pc ls rest) := by
  subst hc' hs'
  refine va_new (fs := fs) hexec hb hts hin ty hty hown (hts _ hcl) (hts _ hinst) (hts _ hini) z.1 z.2.1 z.2.2.1 z.2.2.2.1 z.2.2.2.2.1 hc (fun j hj => ?_) hcells hslots hdg (fun q H1 hP hD hS => kk q H1 ⟨z.1, hP, hD, hS, z.2.2.2.2⟩)
  subst hfs
  unfold vp_V
  rw [List.getD_eq_getElem?_getD, List.getElem?_map, List.getElem?_range hj]
  rfl
theorem z_newa (hexec : p.tables.exec = Jvm.exec) (hb : c.code = cc) {atype : ArrayType} {ty : FieldType} (hts : ∀ w ∈ Ts, w.before args s = true) (harr : Cond.arrayClass (newarray.typeOf atype) ∈ Ts) (hty : newarray.typeOf atype = ty) (z : zw D ws tys A H0 s H locs)
    {n : Int32} {N' : Nat} {a0 : vp_A} (ha : ∀ cA : ClassId, vp_cell cA a0 = arrV cA N' (fun _ => defaultValue ty)) (hn : ¬ n < 0) (hN : n.toNatClampNeg = N') (hbytes : N' * componentBytes ty ≤ 536870912) {cells' slots' : Nat} (hcells : cells + 1 ≤ R.cells) (hslots : slots + N' ≤ R.slots) (hc' : cells + 1 = cells') (hs' : slots + N' = slots') (hdg : decode cc pc = .ok (.newarray atype, 2))
    (kk : ∀ (q : Nat) (cA : ClassId) (H1 : Heap), zw D (ws ++ [(q, .inl (cA, a0))]) (tys ++ [(cA, ty)]) A H0 s H1 locs → W p l e R s m args below meth c H1 locs cells' slots' Q (F0 m (pc + 2) ls (.ref q :: rest))) : W p l e R s m args below meth c H locs cells slots Q (F0 m pc ls (.int n :: rest)) := by
  subst hc' hs'
  exact va_newa hexec hb (hts _ harr) hty z.1 z.2.1 z.2.2.1 z.2.2.2.1 z.2.2.2.2.1 ha hn hN hbytes hcells hslots hdg (fun q cA H1 hK hP hD hS => kk q cA H1 ⟨hK, hP, hD, hS, z.2.2.2.2⟩)
theorem z_iald (hexec : p.tables.exec = Jvm.exec) (hb : c.code = cc) (z : zw D ws tys A H0 s H locs) (q0 t0 : Nat) {cA : ClassId} {n : Nat} {f : Nat → Int32} (ha : ws[q0]? = some (a, .inl (cA, n, .inl f))) (ht : tys[t0]? = some (cA, .int)) {i : Int32} (hin : vp_in i n) (hdg : decode cc pc = .ok (.iaload, 1))
    (kk : W p l e R s m args below meth c H locs cells slots Q (F0 m (pc + 1) ls (.int (f i.toNatClampNeg) :: rest))) : W p l e R s m args below meth c H locs cells slots Q (F0 m pc ls (.int i :: .ref a :: rest)) := va_iald hexec hb z.1 z.2.1 q0 t0 ha ht hin hdg kk
theorem z_cald (hexec : p.tables.exec = Jvm.exec) (hb : c.code = cc) (z : zw D ws tys A H0 s H locs) (q0 t0 : Nat) {cA : ClassId} {n : Nat} {f : Nat → Int32} (ha : ws[q0]? = some (a, .inl (cA, n, .inl f))) (ht : tys[t0]? = some (cA, .char)) {i : Int32} (hin : vp_in i n) (hdg : decode cc pc = .ok (.caload, 1))
    (kk : W p l e R s m args below meth c H locs cells slots Q (F0 m (pc + 1) ls (.int (f i.toNatClampNeg) :: rest))) : W p l e R s m args below meth c H locs cells slots Q (F0 m pc ls (.int i :: .ref a :: rest)) := va_cald hexec hb z.1 z.2.1 q0 t0 ha ht hin hdg kk
theorem z_bald (hexec : p.tables.exec = Jvm.exec) (hb : c.code = cc) (z : zw D ws tys A H0 s H locs) (q0 t0 : Nat) {cA : ClassId} {n : Nat} {f : Nat → Int32} (ha : ws[q0]? = some (a, .inl (cA, n, .inl f))) (ht : tys[t0]? = some (cA, .byte)) {i : Int32} (hin : vp_in i n) (hdg : decode cc pc = .ok (.baload, 1))
    (kk : W p l e R s m args below meth c H locs cells slots Q (F0 m (pc + 1) ls (.int (f i.toNatClampNeg) :: rest))) : W p l e R s m args below meth c H locs cells slots Q (F0 m pc ls (.int i :: .ref a :: rest)) := va_bald hexec hb z.1 z.2.1 q0 t0 ha ht hin hdg kk
theorem z_alen (hexec : p.tables.exec = Jvm.exec) (hb : c.code = cc) (z : zw D ws tys A H0 s H locs) (q0 t0 : Nat) {cA : ClassId} {x : vp_A} (ha : ws[q0]? = some (a, .inl (cA, x))) {ty : FieldType} (ht : tys[t0]? = some (cA, ty)) {v : Int32} (hv : Int32.ofNat x.1 = v) (hdg : decode cc pc = .ok (.arraylength, 1))
    (kk : W p l e R s m args below meth c H locs cells slots Q (F0 m (pc + 1) ls (.int v :: rest))) : W p l e R s m args below meth c H locs cells slots Q (F0 m pc ls (.ref a :: rest)) := va_alen hexec hb z.1 z.2.1 q0 t0 ha ht hv hdg kk
theorem z_iast (hexec : p.tables.exec = Jvm.exec) (hb : c.code = cc) (z : zw D ws tys A H0 s H locs) (q0 t0 : Nat) {cA : ClassId} {n : Nat} {f : Nat → Int32} (ha : ws[q0]? = some (a, .inl (cA, n, .inl f))) (ht : tys[t0]? = some (cA, .int)) {i : Int32} {x : Int32} (hin : vp_in i n) (hdg : decode cc pc = .ok (.iastore, 1))
    (kk : ∀ (g : Nat → Int32) (H1 : Heap) (locs1 : List Loc), g = upd f i.toNatClampNeg x → zw D (ws.set q0 (a, .inl (cA, n, .inl g))) tys A H0 s H1 locs1 → W p l e R s m args below meth c H1 locs1 cells slots Q (F0 m (pc + 1) ls rest)) : W p l e R s m args below meth c H locs cells slots Q (F0 m pc ls (.int x :: .int i :: .ref a :: rest)) :=
  va_iast hexec hb z.1 z.2.1 z.2.2.1 z.2.2.2.1 q0 t0 ha ht hin hdg (fun H1 locs1 hP hD hS => kk _ H1 locs1 rfl ⟨z.1, hP, hD, hS, z.2.2.2.2⟩)
theorem z_cast (hexec : p.tables.exec = Jvm.exec) (hb : c.code = cc) (z : zw D ws tys A H0 s H locs) (q0 t0 : Nat) {cA : ClassId} {n : Nat} {f : Nat → Int32} (ha : ws[q0]? = some (a, .inl (cA, n, .inl f))) (ht : tys[t0]? = some (cA, .char)) {i : Int32} {x : Int32} (hin : vp_in i n) (hdg : decode cc pc = .ok (.castore, 1))
    (kk : ∀ (g : Nat → Int32) (H1 : Heap) (locs1 : List Loc), zw D (ws.set q0 (a, .inl (cA, n, .inl g))) tys A H0 s H1 locs1 → W p l e R s m args below meth c H1 locs1 cells slots Q (F0 m (pc + 1) ls rest)) : W p l e R s m args below meth c H locs cells slots Q (F0 m pc ls (.int x :: .int i :: .ref a :: rest)) :=
  va_cast hexec hb z.1 z.2.1 z.2.2.1 z.2.2.2.1 q0 t0 ha ht hin hdg (fun H1 locs1 hP hD hS => kk _ H1 locs1 ⟨z.1, hP, hD, hS, z.2.2.2.2⟩)
theorem z_bast (hexec : p.tables.exec = Jvm.exec) (hb : c.code = cc) (z : zw D ws tys A H0 s H locs) (q0 t0 : Nat) {cA : ClassId} {n : Nat} {f : Nat → Int32} (ha : ws[q0]? = some (a, .inl (cA, n, .inl f))) (ht : tys[t0]? = some (cA, .byte)) {i : Int32} {x : Int32} (hin : vp_in i n) (hdg : decode cc pc = .ok (.bastore, 1))
    (kk : ∀ (g : Nat → Int32) (H1 : Heap) (locs1 : List Loc), zw D (ws.set q0 (a, .inl (cA, n, .inl g))) tys A H0 s H1 locs1 → W p l e R s m args below meth c H1 locs1 cells slots Q (F0 m (pc + 1) ls rest)) : W p l e R s m args below meth c H locs cells slots Q (F0 m pc ls (.int x :: .int i :: .ref a :: rest)) :=
  va_bast hexec hb z.1 z.2.1 z.2.2.1 z.2.2.2.1 q0 t0 ha ht hin hdg (fun H1 locs1 hP hD hS => kk _ H1 locs1 ⟨z.1, hP, hD, hS, z.2.2.2.2⟩)
theorem z_last (hexec : p.tables.exec = Jvm.exec) (hb : c.code = cc) (z : zw D ws tys A H0 s H locs) (q0 t0 : Nat) {cA : ClassId} {n : Nat} {f : Nat → Int64} (ha : ws[q0]? = some (a, .inl (cA, n, .inr (.inl f)))) (ht : tys[t0]? = some (cA, .long)) {i : Int32} {x : Int64} (hin : vp_in i n) (hdg : decode cc pc = .ok (.lastore, 1))
    (kk : ∀ (g : Nat → Int64) (H1 : Heap) (locs1 : List Loc), g = vp_updL f i.toNatClampNeg x → zw D (ws.set q0 (a, .inl (cA, n, .inr (.inl g)))) tys A H0 s H1 locs1 → W p l e R s m args below meth c H1 locs1 cells slots Q (F0 m (pc + 1) ls rest)) : W p l e R s m args below meth c H locs cells slots Q (F0 m pc ls (.long x :: .int i :: .ref a :: rest)) :=
  va_last hexec hb z.1 z.2.1 z.2.2.1 z.2.2.2.1 q0 t0 ha ht hin hdg (fun H1 locs1 hP hD hS => kk _ H1 locs1 rfl ⟨z.1, hP, hD, hS, z.2.2.2.2⟩)
theorem z_newq (hexec : p.tables.exec = Jvm.exec) (hb : c.code = cc) {own C : String} {index : Nat} (hts : ∀ w ∈ Ts, w.before args s = true) (hown : s.vm.findClass own = some m.cls) (hclink : Cond.classLink own index C ∈ Ts) (hover : va_AO C s) (z : zw D ws tys A H0 s H locs)
    {n : Int32} (hn : ¬ n < 0) {N' : Nat} (hN : n.toNatClampNeg = N') (hbytes : N' * 4 ≤ 536870912) {cells' slots' : Nat} (hcells : cells + 1 ≤ R.cells) (hslots : slots + N' ≤ R.slots) (hc' : cells + 1 = cells') (hs' : slots + N' = slots') (hdg : decode cc pc = .ok (.anewarray index, 3))
    (kk : ∀ (q : Nat) (cA : ClassId) (H1 : Heap), zw D (ws ++ [(q, .inl (cA, N', .inr (.inr (.inr (.inr (fun _ => none))))))]) (tys ++ [(cA, .object C)]) A H0 s H1 locs → W p l e R s m args below meth c H1 locs cells' slots' Q (F0 m (pc + 3) ls (.ref q :: rest))) : W p l e R s m args below meth c H locs cells slots Q (F0 m pc ls (.int n :: rest)) := by
  subst hc' hs'
  exact va_newq hexec hb hown (hts _ hclink) hover z.1 z.2.1 z.2.2.1 z.2.2.2.1 z.2.2.2.2.1 hn hN hbytes hcells hslots hdg (fun q cA H1 hK hP hD hS => kk q cA H1 ⟨hK, hP, hD, hS, z.2.2.2.2⟩)
theorem z_astq (hexec : p.tables.exec = Jvm.exec) (hb : c.code = cc) (z : zw D ws tys A H0 s H locs) (q0 t0 qk : Nat) {ci : Nat} {cA : ClassId} {r : vw_C} {n v : Nat} {vs : List Value} {f : Nat → Option Nat} (ha : ws[q0]? = some (a, .inl (cA, n, .inr (.inr (.inr (.inr f)))))) (ht : tys[t0]? = some (cA, .object r.1)) (hv : ws[qk]? = some (v, .inr (ci, vs))) (hc : vwCl[ci]? = some r) {i : Int32} (hin : vp_in i n) (hdg : decode cc pc = .ok (.aastore, 1))
    (kk : ∀ (g : Nat → Option Nat) (H1 : Heap) (locs1 : List Loc), zw D (ws.set q0 (a, .inl (cA, n, .inr (.inr (.inr (.inr g)))))) tys A H0 s H1 locs1 → W p l e R s m args below meth c H1 locs1 cells slots Q (F0 m (pc + 1) ls rest)) : W p l e R s m args below meth c H locs cells slots Q (F0 m pc ls (.ref v :: .int i :: .ref a :: rest)) :=
  va_astq hexec hb z.1 z.2.1 z.2.2.1 z.2.2.2.1 q0 t0 qk ci ha ht hv hc hin hdg (fun H1 locs1 hP hD hS => kk _ H1 locs1 ⟨z.1, hP, hD, hS, z.2.2.2.2⟩)
/-- throw new E("text") -/
theorem z_throw (hexec : p.tables.exec = Jvm.exec) (hb : c.code = cc) (hl : l.stackTraces = false) {own cls text : String} {ik is ic : Nat} {PX : String → Prop} {Qc : Array Value → State → Outcome → State → Prop}
    (hts : ∀ w ∈ Ts, w.before args s = true) (hown : s.vm.findClass own = some m.cls) (hlocks : meth.locks = false) (hml : c.maxLocals = ls.size) (hout : ∀ x ∈ c.exceptionTable.toList, False) (hcls : Bundle.fit cls = true)
    (hk : Cond.classLink own ik cls ∈ Ts) (hini : Cond.initialized cls ∈ Ts) (hatg : ∀ w ∈ (vx_atS own ic cls ["java/lang/RuntimeException", "java/lang/Exception"]).filter goodWord, w ∈ Ts) (hng : ∀ w ∈ (vx_atS own ic cls ["java/lang/RuntimeException", "java/lang/Exception"]).filter (fun w => !goodWord w), w ∈ [Cond.castable cls cls]) (hex : cls ∈ zExcs)
    (hgood : ∀ w ∈ Cond.classLink own ik cls :: Cond.initialized cls :: vx_atS own ic cls ["java/lang/RuntimeException", "java/lang/Exception"], vx_ot w = true) (hstr : (own, is, text) ∈ zStrs) (z : zw D ws tys A s.heap s H locs)
    (d0 : decode cc pc = .ok (.new ik, 3)) (d3 : decode cc (pc + 3) = .ok (.dup, 1)) (d4 : decode cc (pc + 4) = .ok (.ldc is, 2)) (d6 : decode cc (pc + 6) = .ok (.invokespecial ic, 3)) (d9 : decode cc (pc + 9) = .ok (.athrow, 1))
    (hRf : 5 < R.frames) (hRl : (rest.map fun v => v.category).sum + 82 ≤ R.locals) (hRc : cells + 1 ≤ R.cells) (hRs : slots + 6 ≤ R.slots) (hPX : PX cls) (hc : cells + 1 ≤ mc) (hs : slots + 6 ≤ ms) :
    W p l e R s m args below meth c H locs cells slots (vx_MQ below Qc (zX PX A) args s mc ms A) (F0 m pc ls rest) := by
  obtain ⟨sa, hsa⟩ := z.2.2.2.2.2.1.1 _ hstr
  have hat : ∀ w ∈ vx_atS own ic cls ["java/lang/RuntimeException", "java/lang/Exception"], w.before args s = true := vx_hat (fun w h => hts w (hatg w h)) hng (vx_c (va_tabs (u := s) rfl rfl (z.2.2.2.2.2.1.2.1 _ hex)) vx_n)
  exact vx_throwS hexec hb hl hown hcls (by decide +kernel) (hts _ hk) (hts _ hini) hsa hat hgood z.2.2.2.2.2.2.1 z.2.2.2.2.2.2.2 z.2.2.2.1 hml.symm d0 d3 d4 d6 d9 (fun x hx => (hout x hx).elim) hRf hRl hRc hRs hlocks (fun t _ h1 h2 => ⟨(), trivial, hPX, ⟨Nat.le_trans z.2.2.2.1.1 h1, fun q hq hA => (h2 q (Nat.lt_of_lt_of_le hq z.2.2.2.1.1)).trans (z.2.2.2.1.2.1 q hq hA)⟩⟩) z.2.2.2.1.2.2 hc hs
theorem z_throwW (hexec : p.tables.exec = Jvm.exec) (hb : c.code = cc) (hl : l.stackTraces = false) {own cls text : String} {ik is ic : Nat} {PX : String → Prop} {Qc : Array Value → State → Outcome → State → Prop}
    (hts : ∀ w ∈ Ts, w.before args s = true) (hown : s.vm.findClass own = some m.cls) (hlocks : meth.locks = false) (hml : c.maxLocals = ls.size) (hout : ∀ x ∈ c.exceptionTable.toList, False) (hcls : Bundle.fit cls = true)
    (hk : Cond.classLink own ik cls ∈ Ts) (hini : Cond.initialized cls ∈ Ts) (hatg : ∀ w ∈ (vx_atS own ic cls ["java/lang/RuntimeException", "java/lang/Exception"]).filter goodWord, w ∈ Ts) (hng : ∀ w ∈ (vx_atS own ic cls ["java/lang/RuntimeException", "java/lang/Exception"]).filter (fun w => !goodWord w), w ∈ [Cond.castable cls cls]) (hex : cls ∈ zExcs)
    (hgood : ∀ w ∈ Cond.classLink own ik cls :: Cond.initialized cls :: vx_atS own ic cls ["java/lang/RuntimeException", "java/lang/Exception"], vx_ot w = true) (hstr : (own, is, text) ∈ zStrs) (z : zw D ws tys A s.heap s H locs)
    (d0 : decode cc pc = .ok (.new ik, 3)) (d3 : decode cc (pc + 3) = .ok (.dup, 1)) (d4 : decode cc (pc + 4) = .ok (.ldc_w is, 3)) (d7 : decode cc (pc + 7) = .ok (.invokespecial ic, 3)) (d10 : decode cc (pc + 10) = .ok (.athrow, 1))
    (hRf : 5 < R.frames) (hRl : (rest.map fun v => v.category).sum + 82 ≤ R.locals) (hRc : cells + 1 ≤ R.cells) (hRs : slots + 6 ≤ R.slots) (hPX : PX cls) (hc : cells + 1 ≤ mc) (hs : slots + 6 ≤ ms) :
    W p l e R s m args below meth c H locs cells slots (vx_MQ below Qc (zX PX A) args s mc ms A) (F0 m pc ls rest) := by
  obtain ⟨sa, hsa⟩ := z.2.2.2.2.2.1.1 _ hstr
  have hat : ∀ w ∈ vx_atS own ic cls ["java/lang/RuntimeException", "java/lang/Exception"], w.before args s = true := vx_hat (fun w h => hts w (hatg w h)) hng (vx_c (va_tabs (u := s) rfl rfl (z.2.2.2.2.2.1.2.1 _ hex)) vx_n)
  exact vx_throwSW hexec hb hl hown hcls (by decide +kernel) (hts _ hk) (hts _ hini) hsa hat hgood z.2.2.2.2.2.2.1 z.2.2.2.2.2.2.2 z.2.2.2.1 hml.symm d0 d3 d4 d7 d10 (fun x hx => (hout x hx).elim) hRf hRl hRc hRs hlocks (fun t _ h1 h2 => ⟨(), trivial, hPX, ⟨Nat.le_trans z.2.2.2.1.1 h1, fun q hq hA => (h2 q (Nat.lt_of_lt_of_le hq z.2.2.2.1.1)).trans (z.2.2.2.1.2.1 q hq hA)⟩⟩) z.2.2.2.1.2.2 hc hs
end ZF
-- a throw that this method's own table takes, behind rows that name other classes
section ZC
variable {p : Program} {l : Launch} {e : Env} {R : Room} {s : State} {m : MethodId} {args : Array Value} {below : List Frame} {meth : Method} {c : Code} {H : Heap} {locs : List Loc} {cells slots : Nat} {Q : State → Prop}
/-- one row of the table that covers the place: it takes what is thrown, or it passes it on; its class is linked then -/
theorem zx_row {f : JFrame} {a : Addr} {S : State} {x : ExceptionTableEntry} {t : List ExceptionTableEntry} {k : ClassId} {cell : Cell} (b : Bool) (hx : covers x f.pc = true) (h0 : x.catchType ≠ 0)
    (hl : S.vm.ClassLinks e.platform f.method.cls x.catchType k) (hcell : S.heap[a]? = some cell) (hobj : ∀ q, cell.vm ≠ .statics q) (hk : ∃ q, S.vm.classes[cell.cls]? = some q) (hc : ∃ q, S.vm.classes[k]? = some q) (hfit : S.vm.assignable cell.cls k = b)
    (G : Handler → Pre) (E : CtlPost) (d : Bool) (acts : List Action) :
    wp (findHandler.go f a (x :: t)) G E e d acts S ↔ (bif b then G (.found x.handlerPc) d acts (S.setVm (S.vm.noted f.method.cls x.catchType (.cls k))) else wp (findHandler.go f a t) G E e d acts (S.setVm (S.vm.noted f.method.cls x.catchType (.cls k)))) := by
  simp only [covers] at hx
  obtain ⟨q1, q2⟩ := (resolveClass_links e.toSetting hl).op (op := VmOp.resolveClass f.method.cls x.catchType) rfl
  have hal : S.vm.Alike (S.vm.noted f.method.cls x.catchType (.cls k)) := (Vm.Alike.refl S.vm).noted _ _ _
  obtain ⟨k1, hk1⟩ := hk
  obtain ⟨k2, hk2⟩ := hc
  obtain ⟨k1', hk1', -⟩ := hal.2.2 _ _ hk1
  obtain ⟨k2', hk2', -⟩ := hal.2.2 _ _ hk2
  have hf : (S.vm.noted f.method.cls x.catchType (.cls k)).assignable cell.cls k = b := by rw [hal.assignable]; exact hfit
  cases b <;> simp [findHandler.go, hx, h0, q1, q2, hcell, hobj, hk1', hk2', hf, VmOp.dirties, VmOp.acts]
/-- what the search in the table t comes to: the handler at h, in every state that has s's tables -/
def zx_finds (e : Env) (s : State) (f : JFrame) (a : Addr) (cell : Cell) (t : List ExceptionTableEntry) (h : Nat) : Prop :=
  ∀ S : State, s.WarmedH S.vm → S.heap[a]? = some cell → ∃ vm', s.WarmedH vm' ∧ ∀ (G : Handler → Pre) (E : CtlPost) (d : Bool) (acts : List Action), wp (findHandler.go f a t) G E e d acts S ↔ G (.found h) d acts (S.setVm vm')
theorem zx_take {f : JFrame} {a : Addr} {x : ExceptionTableEntry} {t : List ExceptionTableEntry} {k : ClassId} {cell : Cell} (hx : covers x f.pc = true) (h0 : x.catchType ≠ 0) (hl : s.vm.ClassLinks e.platform f.method.cls x.catchType k) (hobj : ∀ q, cell.vm ≠ .statics q) (hk : ∃ q, s.vm.classes[cell.cls]? = some q) (hfit : s.vm.assignable cell.cls k = true) : zx_finds e s f a cell (x :: t) x.handlerPc := by
  intro S hW hcell
  obtain ⟨dk, _, _, kt, hd, _, _, _, _, hkt, _, ho⟩ := hl.here
  obtain ⟨k0, hk0⟩ := hk
  obtain ⟨k0', hk0', -⟩ := hW.alike.2.2 _ _ hk0
  obtain ⟨kt', hkt', -⟩ := hW.alike.2.2 _ _ hkt
  exact ⟨_, hW.noted hd ho (State.rightAt_cls hl), fun G E d acts => zx_row true hx h0 (hW.classLinks hl) hcell hobj ⟨k0', hk0'⟩ ⟨kt', hkt'⟩ (by rw [hW.alike.assignable]; exact hfit) G E d acts⟩
theorem zx_pass {f : JFrame} {a : Addr} {x : ExceptionTableEntry} {t : List ExceptionTableEntry} {k : ClassId} {cell : Cell} {h : Nat} (hx : covers x f.pc = true) (h0 : x.catchType ≠ 0) (hl : s.vm.ClassLinks e.platform f.method.cls x.catchType k) (hobj : ∀ q, cell.vm ≠ .statics q) (hk : ∃ q, s.vm.classes[cell.cls]? = some q) (hfit : s.vm.assignable cell.cls k = false) (hr : zx_finds e s f a cell t h) : zx_finds e s f a cell (x :: t) h := by
  intro S hW hcell
  obtain ⟨dk, _, _, kt, hd, _, _, _, _, hkt, _, ho⟩ := hl.here
  obtain ⟨k0, hk0⟩ := hk
  obtain ⟨k0', hk0', -⟩ := hW.alike.2.2 _ _ hk0
  obtain ⟨kt', hkt', -⟩ := hW.alike.2.2 _ _ hkt
  obtain ⟨vm', hW', hq⟩ := hr (S.setVm (S.vm.noted f.method.cls x.catchType (.cls k))) (hW.noted hd ho (State.rightAt_cls hl)) hcell
  exact ⟨vm', hW', fun G E d acts => (zx_row false hx h0 (hW.classLinks hl) hcell hobj ⟨k0', hk0'⟩ ⟨kt', hkt'⟩ (by rw [hW.alike.assignable]; exact hfit) G E d acts).trans (hq G E d acts)⟩
theorem zx_steps {T : State} {g : JFrame} {a : Addr} {cell : Cell} (X : Stand p l e R s m args below meth c T locs cells slots) (hg : g.method = m) (hcell : T.heap[a]? = some cell) {h : Nat} (hf : zx_finds e s g a cell c.exceptionTable.toList h) :
    ∃ vm', Stand p l e R s m args below meth c (T.setVm vm') locs cells slots ∧ Steps p.tables e below ((T.setTop g).pushFrame (.throwing a)) ((T.setVm vm').setTop { g with pc := h, stack := [.ref a] }) := by
  subst hg
  obtain ⟨vm', hW', hq⟩ := hf ((T.setTop g).pushFrame (.throwing a)) X.warmed hcell
  refine ⟨vm', X.noted hW', ?_⟩
  obtain ⟨hgo, hw⟩ := X.here.throwing a
  refine Steps.head hgo hw ?_
  have hfind : ∀ (G : Handler → Pre) (E : CtlPost) (d : Bool) (acts : List Action), wp (findHandler g a) G E e d acts ((T.setTop g).pushFrame (.throwing a)) ↔ G (.found h) d acts (((T.setTop g).pushFrame (.throwing a)).setVm vm') := fun G E d acts => by
    rw [Jvm.W.findHandler_eq (s := (T.setTop g).pushFrame (.throwing a)) (meth := meth) (code := c) X.method' X.code]
    exact hq G E d acts
  have hstep : (stepThrowing e ((T.setTop g).pushFrame (.throwing a)) a (.java g :: T.frames.tail)).1 = (((T.setTop g).pushFrame (.throwing a)).setVm vm').setFrames (.java { g with pc := h, stack := [.ref a] } :: T.frames.tail) := by
    simp only [stepThrowing, searchFrame, vmDo]
    generalize hr : Sem.go _ e false [] _ = res
    obtain ⟨as, rfl, -⟩ := Sem.eq_ok_of hr (a := Handler.found h) (s' := ((T.setTop g).pushFrame (.throwing a)).setVm vm') (acts' := []) (by simp [hfind _ _ _ _])
    rfl
  rw [stepThread_throwing (frames_entered X.here.top _), hstep]
  obtain ⟨g₀, hg0⟩ := Option.isSome_iff_exists.mp X.here.top
  obtain ⟨r, hr⟩ := State.topJava?_eq_some.mp hg0
  have hr' : (T.setVm vm').frames = .java g₀ :: r := hr
  have e1 : (((T.setTop g).pushFrame (.throwing a)).setVm vm').setFrames (.java { g with pc := h, stack := [.ref a] } :: T.frames.tail) = (T.setVm vm').setTop { g with pc := h, stack := [.ref a] } := by
    rw [State.setTop_of_frames _ hr', hr, State.pushFrame, State.setTop_of_frames _ hr]
    show (((T.setVm vm').setFrames _).setFrames _).setFrames _ = _
    rw [State.setFrames_setFrames, State.setFrames_setFrames]
    rfl
  rw [e1]
  exact Steps.refl _
theorem z_catch {pc : Nat} {ls : Array Slot} {rest : List Value} {own E name : String} {ce : Cell} {q : Addr} (hown : s.vm.findClass own = some m.cls) {t : List ExceptionTableEntry} {x : ExceptionTableEntry} (pre : List (ExceptionTableEntry × String)) (ht : c.exceptionTable.toList = pre.map (·.1) ++ x :: t)
    (hpre : ∀ y ∈ pre, covers y.1 pc = true ∧ y.1.catchType ≠ 0 ∧ (Cond.classLink own y.1.catchType y.2).before args s = true ∧ va_Nc E y.2 s) (hx : covers x pc = true) (h0 : x.catchType ≠ 0)
    (hlink : (Cond.classLink own x.catchType name).before args s = true) (hcast : (Cond.castable E name).before args s = true) (hcell : H[q]? = some ce) (hv : ce.vm = .none) (hcl : s.vm.findClass E = some ce.cls)
    (kk : W p l e R s m args below meth c H locs cells slots Q (F0 m x.handlerPc ls [.ref q])) : vx_W p l e R s m args below meth c H locs cells slots Q (F0 m pc ls rest) q := by
  intro T hT X
  have hpl : e.platform.magicAccessors = ({} : Platform).magicAccessors := by rw [X.admits.platform]
  have hobj : ∀ z, ce.vm ≠ .statics z := fun z h => by rw [hv] at h; cases h
  obtain ⟨k9, h9, -⟩ := Vm.findClass_spec hcl
  obtain ⟨c3, c4, hc3, hc4, hasg⟩ := Cond.castable_spec hcast
  cases Option.some.inj (hc3.symm.trans hcl)
  obtain ⟨c5, hc5, hl5⟩ := Cond.classLink_spec hown hlink e.platform hpl
  cases Option.some.inj (hc4.symm.trans hc5)
  have key : ∀ pr : List (ExceptionTableEntry × String), (∀ y ∈ pr, covers y.1 pc = true ∧ y.1.catchType ≠ 0 ∧ (Cond.classLink own y.1.catchType y.2).before args s = true ∧ va_Nc E y.2 s) → zx_finds e s (F0 m pc ls rest) q ce (pr.map (·.1) ++ x :: t) x.handlerPc := by
    intro pr
    induction pr with
    | nil => intro _; exact zx_take hx h0 hl5 hobj ⟨k9, h9⟩ hasg
    | cons y ys ih =>
      intro h
      obtain ⟨y1, y2, y3, y4⟩ := h y List.mem_cons_self
      obtain ⟨c6, hc6, hl6⟩ := Cond.classLink_spec hown y3 e.platform hpl
      obtain ⟨a8, b8, n1, n2, n3⟩ := y4
      cases Option.some.inj (n1.symm.trans hcl)
      cases Option.some.inj (n2.symm.trans hc6)
      exact zx_pass y1 y2 hl6 hobj ⟨k9, h9⟩ n3 (ih (fun z hz => h z (List.mem_cons_of_mem _ hz)))
  obtain ⟨vm', X', st⟩ := zx_steps X (g := F0 m pc ls rest) rfl (by rw [hT]; exact hcell) (by rw [ht]; exact key pre hpre)
  obtain ⟨t9, a1, b1⟩ := kk (T.setVm vm') hT X'
  exact ⟨t9, st.trans a1, b1⟩
end ZC
section ZL
variable {p : Program} {l : Launch} {e : Env} {R : Room} {s : State} {m : MethodId} {args : Array Value} {below : List Frame} {meth : Method} {c : Code} {cells slots : Nat} {Q : State → Prop} {pc : Nat} {st : List Value}
/-- a loop: what holds at its head, a number that falls -/
theorem z_loop {α : Type} (I : α → Heap → List Loc → Array Slot → Prop) (μ : α → Nat) (a : α) {H : Heap} {locs : List Loc} {ls : Array Slot} (h0 : I a H locs ls)
    (hs : ∀ (a : α) (H : Heap) (locs : List Loc) (ls : Array Slot), I a H locs ls → (∀ (b : α) (H : Heap) (locs : List Loc) (ls : Array Slot), I b H locs ls → μ b < μ a → W p l e R s m args below meth c H locs cells slots Q (F0 m pc ls st)) → W p l e R s m args below meth c H locs cells slots Q (F0 m pc ls st)) :
    W p l e R s m args below meth c H locs cells slots Q (F0 m pc ls st) := by
  have key : ∀ (n : Nat) (a : α) (H : Heap) (locs : List Loc) (ls : Array Slot), μ a < n → I a H locs ls → W p l e R s m args below meth c H locs cells slots Q (F0 m pc ls st) := by
    intro n
    induction n with
    | zero => intro a H locs ls hn _; exact absurd hn (Nat.not_lt_zero _)
    | succ n ih => intro a H locs ls hn h; exact hs a H locs ls h (fun b H locs ls hb hlt => ih b H locs ls (by omega) hb)
  exact key _ a H locs ls (Nat.lt_succ_self _) h0
end ZL
-- numbers
theorem z_nI_lt {j k : Nat} (h : j < k) (hk : k < 2 ^ 31) : nI j < nI k := nI_lt h hk
theorem z_le_lt {x a b : Int32} (h1 : ¬ a < x) (h2 : a < b) : x < b := by
  rw [Int32.lt_iff_toInt_lt] at *; omega
theorem z_lt_le {x a b : Int32} (h1 : x < a) (h2 : ¬ b < a) : x < b := by
  rw [Int32.lt_iff_toInt_lt] at *; omega
theorem z_lt_ge {x a b : Int32} (h1 : ¬ x < b) (h2 : a < b) : a < x := by
  rw [Int32.lt_iff_toInt_lt] at *; omega
-- what the calls' arguments are
def zs (x : Int32) : Prop := x = 0 ∨ x = 1
def zg (a b d : Int32) : Prop := ¬ a < 0 ∧ ¬ 2 < a ∧ ¬ b < 1 ∧ ¬ 20 < b ∧ ¬ d < 0 ∧ ¬ 60 < d
def zf (k a b d : Int32) : Prop := ¬ k < 2 ∧ ¬ 10 < k ∧ zg a b d
def zn (n : Int32) : Prop := ¬ n < 0 ∧ ¬ 0 < n
def zq (w : Int32) : Prop := w = 0 ∨ w = 1 ∨ w = 2 ∨ w = 3 ∨ w = 4 ∨ w = 5 ∨ w = 7 ∨ w = 8 ∨ w = 9
theorem z_nlt_nI (k j : Nat) (hk : k < 2 ^ 31) (hj : j < 2 ^ 31) (h : ¬ nI k < nI j) : j ≤ k := by
  rcases Nat.lt_or_ge k j with q | q
  · exact absurd (nI_lt q hj) h
  · exact q
theorem z_lt_nI (k j : Nat) (hk : k < 2 ^ 31) (hj : j < 2 ^ 31) (h : nI k < nI j) : k < j := (nI_ltI hk hj).mp h
-- the primes up to 200
def zP : List Nat := [2, 3, 5, 7, 11, 13, 17, 19, 23, 29, 31, 37, 41, 43, 47, 53, 59, 61, 67, 71, 73, 79, 83, 89, 97, 101, 103, 107, 109, 113, 127, 131, 137, 139, 149, 151, 157, 163, 167, 173, 179, 181, 191, 193, 197, 199]
/-- how many of them are below p -/
def zc (p : Nat) : Nat := (zP.filter (fun q => decide (q < p))).length
/-- none of the first k divides p -/
def zd (p k : Nat) : Bool := (zP.take k).all (fun q => decide (p % q ≠ 0))
theorem zF : ∀ j, j < 199 → zc (j + 2) ≤ 46 ∧ (zd (j + 2) (zc (j + 2)) = false → zc (j + 3) = zc (j + 2)) ∧ (zd (j + 2) (zc (j + 2)) = true → zc (j + 2) < 46 ∧ zc (j + 3) = zc (j + 2) + 1 ∧ zP.getD (zc (j + 2)) 0 = j + 2) := by decide +kernel
theorem zd_0 (p : Nat) : zd p 0 = true := rfl
theorem zc_2 : zc 2 = 0 := by decide +kernel
theorem zP_len : zP.length = 46 := by decide +kernel
theorem zP_in : ∀ k, k < 46 → 2 ≤ zP.getD k 0 ∧ zP.getD k 0 < 200 := by decide +kernel
theorem zd_s {p k : Nat} (hk : k < 46) : zd p (k + 1) = (zd p k && decide (p % zP.getD k 0 ≠ 0)) := by
  have h : k < zP.length := by rw [zP_len]; exact hk
  unfold zd
  rw [List.take_succ_eq_append_getElem h, List.all_append, List.getD_eq_getElem?_getD, List.getElem?_eq_getElem h]
  simp
/-- a truth as an int -/
def zb (b : Bool) : Int32 := bif b then 1 else 0
theorem zb_f {d : Bool} {b : Int32} (hb : b = zb d) (h : b = 0) : d = false := by
  cases d
  · rfl
  · rw [hb] at h; exact absurd h (by decide)
theorem zb_t {d : Bool} {b : Int32} (hb : b = zb d) (h : ¬ b = 0) : d = true := by
  cases d
  · exact absurd hb h
  · rfl
theorem zb_0 {d : Bool} {b : Int32} (hb : b = zb d) (h : b = 0) (x : Bool) : 0 = zb (d && x) := by
  rw [zb_f hb h]; rfl
theorem zr_0 {p q : Nat} {v w : Int32} (hp : p < 2 ^ 31) (h0 : 0 < q) (hq : q < 2 ^ 31) (hv : v = nI q) (hw : w = nI p - nI p / v * v) : w = nI (p % q) := by
  rw [hw, hv, pk_rem hp h0 hq]
theorem zb_y {d : Bool} {b w : Int32} {p q : Nat} (hp : p < 2 ^ 31) (hb : b = zb d) (h : ¬ b = 0) (hw : w = nI (p % q)) (h2 : w = 0) : 0 = zb (d && decide (p % q ≠ 0)) := by
  have e : p % q = 0 := by
    rcases Nat.eq_zero_or_pos (p % q) with z | z
    · exact z
    · exact absurd (hw ▸ h2) (nI_ne0 z (Nat.lt_of_le_of_lt (Nat.mod_le p q) hp))
  rw [e]
  cases d <;> rfl
theorem zb_n {d : Bool} {b w : Int32} {p q : Nat} (hb : b = zb d) (h : ¬ b = 0) (hw : w = nI (p % q)) (h2 : ¬ w = 0) : 1 = zb (d && decide (p % q ≠ 0)) := by
  have e : p % q ≠ 0 := fun z => h2 (by rw [hw, z]; rfl)
  rw [zb_t hb h, decide_eq_true e]
  rfl
theorem zP_up {f g : Nat → Int32} {n : Nat} {x : Int32} (hn : n < 2 ^ 31) (hg : g = upd f (nI n).toNatClampNeg x) (hf : ∀ i, i < n → f i = nI (zP.getD i 0)) (hx : x = nI (zP.getD n 0)) : ∀ i, i < n + 1 → g i = nI (zP.getD i 0) := by
  intro i hi
  rw [hg, nI_clamp hn]
  by_cases h : i = n
  · rw [h, pk_us]; exact hx
  · rw [pk_un h]; exact hf i (by omega)
