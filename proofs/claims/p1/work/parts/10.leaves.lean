set_option maxHeartbeats 4000000 in
set_option maxRecDepth 100000 in
/-- Bytes(4000) -/
theorem c_X0_init_4000 (l : Launch) (D : va_G) (sz : Nat) (h0 : Nat) : Met l yX0_init wsX0_init ({ frames := 1, cells := 1, slots := 4000, locals := 21 }) (va_Pc [.ref h0, .int 4000] (zI D [(h0, .inr (0, [.null, .int 0, .int 0]))] [] sz)) (va_Qv (fun (_ : Unit) => True) (fun _ t => ∃ q : Nat, ∃ cA : ClassId, zB D (va_A [(h0, .inr (0, [.null, .int 0, .int 0]))] sz) [(h0, .inr (0, [.ref q, .int 0, .int 0])), (q, .inl (cA, 4000, .inl (fun _ => 0)))] [(cA, .byte)] t) (va_A [(h0, .inr (0, [.null, .int 0, .int 0]))] sz)) 1 4000 (va_A [(h0, .inr (0, [.null, .int 0, .int 0]))] sz) := by
  refine Met.ofW (cc := cX0_init) (maxL := 2) (ret := none) (by decide) rfl ?_
  intro p e s m args below meth c s₁ B hml hv
  obtain ⟨rfl, hv⟩ := hv
  have hx := B.exec
  have hb := B.bytes
  have hr := B.returns
  have hts := atoms_spec (ws := wsX0_init) B.pre
  have hown : s.vm.findClass RX0 = some m.cls := findClass_of_methodNamed B.named
  have hlocks := B.notSynchronized
  have hiX0 : ∀ w ∈ u_ws RX0 TX0 3, w ∈ wsX0_init := (fun _ h => List.mem_cons_of_mem _ (List.mem_append_right _ h))
  have hin : meth.name = "<init>" := (name_of_methodNamed B.named B.method).1
  obtain ⟨hsz, z⟩ := hv.start
  clear hv
  subst hsz
  generalize va_A [(h0, .inr (0, [.null, .int 0, .int 0]))] s.heap.size = A at z ⊢
  have hl := lv_entry ([.ref h0, .int 4000]) (n := 2) (Nat.le_of_ble_eq_true rfl)
  rw [lg_entry_eq]
  generalize (lg_sl ([.ref h0, .int 4000]) ++ List.replicate (2 - (lg_sl ([.ref h0, .int 4000])).length) Slot.unset).toArray = ls at hl ⊢
  have hl : lv_has ls 2 [(0, .ref h0), (1, .int 4000)] := hl
  refine z_begin z (fun H locs z => ?_)
  refine lv_aload_n hx hb dX0_init_0 rfl (lv_at hl 0 rfl) ?_
  refine W.objInit hx hb hown (hts (.methodLink RX0 3 objectInit) (by decide +kernel)) (hts (.instanceMethod objectInit) (by decide +kernel)) (hts (.code objectInit ⟨#[0xb1]⟩ 1 none) (by decide +kernel)) rfl (by rw [hml]; exact hl.1) rfl dX0_init_1 (Nat.le_of_ble_eq_true rfl) (Nat.le_of_ble_eq_true rfl) ?_
  refine W.eq (g2 := F0 m 4 ls []) rfl ?_
  refine lv_aload_n hx hb dX0_init_4 rfl (lv_at hl 0 rfl) ?_
  refine lv_iload_n hx hb dX0_init_5 rfl (lv_at hl 1 rfl) ?_
  refine lv_iconst (v := 0) hx hb dX0_init_6 (by decide) ?_
  refine va_mmax hx hb (hml.trans hl.1.symm) hown (hts (.methodLink RX0 9 Lib.Math.max.name) (by decide +kernel)) (hts (.static Lib.Math.max.name) (by decide +kernel)) (hts (.initialized "java/lang/Math") (by decide +kernel)) (hts (.code Lib.Math.max.name Lib.Math.max.code 2 (some .int)) (by decide +kernel)) (Nat.le_of_ble_eq_true rfl) (Nat.le_of_ble_eq_true rfl) (Nat.le_of_ble_eq_true rfl) (Nat.le_of_ble_eq_true rfl) dX0_init_7 ?_
  refine z_ti (y := 4000) (by decide) ?_
  refine z_newa (atype := .byte) (ty := .byte) (a0 := (4000, .inl (fun _ => 0))) hx hb hts (show Cond.arrayClass .byte ∈ wsX0_init by decide +kernel) rfl z (fun _ => rfl) (by decide) (by decide) (by decide) (cells' := 1) (slots' := 4000) (Nat.le_of_ble_eq_true rfl) (Nat.le_of_ble_eq_true rfl) rfl rfl dX0_init_10 (fun q_1 cA_2 H z => ?_)
  have z : zw D [(h0, .inr (0, [.null, .int 0, .int 0])), (q_1, .inl (cA_2, 4000, .inl (fun _ => 0)))] [(cA_2, .byte)] A s.heap s H locs := z
  refine z_putF (v := .ref q_1) (C := RX0) (T := TX0) (N := 3) hx hb hts hiX0 tyX0 tyX0_ok nmX0 hown hin z 0 rfl rfl 0 (by decide) (show Cond.fieldLink RX0 15 "GainTrees$Bytes" "data" "[B" ∈ wsX0_init by decide +kernel) rfl rfl rfl rfl rfl (Nat.le_of_ble_eq_true rfl) dX0_init_12 (fun H locs z => ?_)
  have z : zw D [(h0, .inr (0, [.ref q_1, .int 0, .int 0])), (q_1, .inl (cA_2, 4000, .inl (fun _ => 0)))] [(cA_2, .byte)] A s.heap s H locs := z
  exact z_vret hx hb hr hlocks z (fun t h => ⟨q_1, cA_2, h.sub [0, 1] [0] (by decide) rfl rfl⟩) (Nat.le_of_ble_eq_true rfl) (Nat.le_of_ble_eq_true rfl) dX0_init_15

set_option maxHeartbeats 4000000 in
set_option maxRecDepth 100000 in
/-- Bytes(6000) -/
theorem c_X0_init_6000 (l : Launch) (D : va_G) (sz : Nat) (h0 : Nat) : Met l yX0_init wsX0_init ({ frames := 1, cells := 1, slots := 6000, locals := 21 }) (va_Pc [.ref h0, .int 6000] (zI D [(h0, .inr (0, [.null, .int 0, .int 0]))] [] sz)) (va_Qv (fun (_ : Unit) => True) (fun _ t => ∃ q : Nat, ∃ cA : ClassId, zB D (va_A [(h0, .inr (0, [.null, .int 0, .int 0]))] sz) [(h0, .inr (0, [.ref q, .int 0, .int 0])), (q, .inl (cA, 6000, .inl (fun _ => 0)))] [(cA, .byte)] t) (va_A [(h0, .inr (0, [.null, .int 0, .int 0]))] sz)) 1 6000 (va_A [(h0, .inr (0, [.null, .int 0, .int 0]))] sz) := by
  refine Met.ofW (cc := cX0_init) (maxL := 2) (ret := none) (by decide) rfl ?_
  intro p e s m args below meth c s₁ B hml hv
  obtain ⟨rfl, hv⟩ := hv
  have hx := B.exec
  have hb := B.bytes
  have hr := B.returns
  have hts := atoms_spec (ws := wsX0_init) B.pre
  have hown : s.vm.findClass RX0 = some m.cls := findClass_of_methodNamed B.named
  have hlocks := B.notSynchronized
  have hiX0 : ∀ w ∈ u_ws RX0 TX0 3, w ∈ wsX0_init := (fun _ h => List.mem_cons_of_mem _ (List.mem_append_right _ h))
  have hin : meth.name = "<init>" := (name_of_methodNamed B.named B.method).1
  obtain ⟨hsz, z⟩ := hv.start
  clear hv
  subst hsz
  generalize va_A [(h0, .inr (0, [.null, .int 0, .int 0]))] s.heap.size = A at z ⊢
  have hl := lv_entry ([.ref h0, .int 6000]) (n := 2) (Nat.le_of_ble_eq_true rfl)
  rw [lg_entry_eq]
  generalize (lg_sl ([.ref h0, .int 6000]) ++ List.replicate (2 - (lg_sl ([.ref h0, .int 6000])).length) Slot.unset).toArray = ls at hl ⊢
  have hl : lv_has ls 2 [(0, .ref h0), (1, .int 6000)] := hl
  refine z_begin z (fun H locs z => ?_)
  refine lv_aload_n hx hb dX0_init_0 rfl (lv_at hl 0 rfl) ?_
  refine W.objInit hx hb hown (hts (.methodLink RX0 3 objectInit) (by decide +kernel)) (hts (.instanceMethod objectInit) (by decide +kernel)) (hts (.code objectInit ⟨#[0xb1]⟩ 1 none) (by decide +kernel)) rfl (by rw [hml]; exact hl.1) rfl dX0_init_1 (Nat.le_of_ble_eq_true rfl) (Nat.le_of_ble_eq_true rfl) ?_
  refine W.eq (g2 := F0 m 4 ls []) rfl ?_
  refine lv_aload_n hx hb dX0_init_4 rfl (lv_at hl 0 rfl) ?_
  refine lv_iload_n hx hb dX0_init_5 rfl (lv_at hl 1 rfl) ?_
  refine lv_iconst (v := 0) hx hb dX0_init_6 (by decide) ?_
  refine va_mmax hx hb (hml.trans hl.1.symm) hown (hts (.methodLink RX0 9 Lib.Math.max.name) (by decide +kernel)) (hts (.static Lib.Math.max.name) (by decide +kernel)) (hts (.initialized "java/lang/Math") (by decide +kernel)) (hts (.code Lib.Math.max.name Lib.Math.max.code 2 (some .int)) (by decide +kernel)) (Nat.le_of_ble_eq_true rfl) (Nat.le_of_ble_eq_true rfl) (Nat.le_of_ble_eq_true rfl) (Nat.le_of_ble_eq_true rfl) dX0_init_7 ?_
  refine z_ti (y := 6000) (by decide) ?_
  refine z_newa (atype := .byte) (ty := .byte) (a0 := (6000, .inl (fun _ => 0))) hx hb hts (show Cond.arrayClass .byte ∈ wsX0_init by decide +kernel) rfl z (fun _ => rfl) (by decide) (by decide) (by decide) (cells' := 1) (slots' := 6000) (Nat.le_of_ble_eq_true rfl) (Nat.le_of_ble_eq_true rfl) rfl rfl dX0_init_10 (fun q_1 cA_2 H z => ?_)
  have z : zw D [(h0, .inr (0, [.null, .int 0, .int 0])), (q_1, .inl (cA_2, 6000, .inl (fun _ => 0)))] [(cA_2, .byte)] A s.heap s H locs := z
  refine z_putF (v := .ref q_1) (C := RX0) (T := TX0) (N := 3) hx hb hts hiX0 tyX0 tyX0_ok nmX0 hown hin z 0 rfl rfl 0 (by decide) (show Cond.fieldLink RX0 15 "GainTrees$Bytes" "data" "[B" ∈ wsX0_init by decide +kernel) rfl rfl rfl rfl rfl (Nat.le_of_ble_eq_true rfl) dX0_init_12 (fun H locs z => ?_)
  have z : zw D [(h0, .inr (0, [.ref q_1, .int 0, .int 0])), (q_1, .inl (cA_2, 6000, .inl (fun _ => 0)))] [(cA_2, .byte)] A s.heap s H locs := z
  exact z_vret hx hb hr hlocks z (fun t h => ⟨q_1, cA_2, h.sub [0, 1] [0] (by decide) rfl rfl⟩) (Nat.le_of_ble_eq_true rfl) (Nat.le_of_ble_eq_true rfl) dX0_init_15

set_option maxHeartbeats 4000000 in
set_option maxRecDepth 100000 in
/-- Bytes.add, with room -/
theorem c_X0_add (l : Launch) (D : va_G) (sz : Nat) (h0 : Nat) (q : Nat) (j : Nat) (cA : ClassId) (f : Nat → Int32) (v : Int32) (hj : j < 4000) : Met l yX0_add wsX0_add ({ frames := 0, cells := 0, slots := 0, locals := 0 }) (va_Pc [.ref h0, .int v] (zI D [(h0, .inr (0, [.ref q, .int (nI j), .int (nI j)])), (q, .inl (cA, 4000, .inl f))] [(cA, .byte)] sz)) (va_Qv (fun (_ : Unit) => True) (fun _ t => ∃ g : Nat → Int32, zB D (va_A [(h0, .inr (0, [.ref q, .int (nI j), .int (nI j)])), (q, .inl (cA, 4000, .inl f))] sz) [(h0, .inr (0, [.ref q, .int (nI (j + 1)), .int (nI (j + 1))])), (q, .inl (cA, 4000, .inl g))] [] t) (va_A [(h0, .inr (0, [.ref q, .int (nI j), .int (nI j)])), (q, .inl (cA, 4000, .inl f))] sz)) 0 0 (va_A [(h0, .inr (0, [.ref q, .int (nI j), .int (nI j)])), (q, .inl (cA, 4000, .inl f))] sz) := by
  refine Met.ofW (cc := cX0_add) (maxL := 2) (ret := none) (by decide) rfl ?_
  intro p e s m args below meth c s₁ B hml hv
  obtain ⟨rfl, hv⟩ := hv
  have hx := B.exec
  have hb := B.bytes
  have hr := B.returns
  have hts := atoms_spec (ws := wsX0_add) B.pre
  have hown : s.vm.findClass RX0 = some m.cls := findClass_of_methodNamed B.named
  have hlocks := B.notSynchronized
  have hiX0 : ∀ w ∈ u_ws RX0 TX0 3, w ∈ wsX0_add := (fun _ h => List.mem_cons_of_mem _ (List.mem_append_right _ h))
  obtain ⟨hsz, z⟩ := hv.start
  clear hv
  subst hsz
  generalize va_A [(h0, .inr (0, [.ref q, .int (nI j), .int (nI j)])), (q, .inl (cA, 4000, .inl f))] s.heap.size = A at z ⊢
  have hl := lv_entry ([.ref h0, .int v]) (n := 2) (Nat.le_of_ble_eq_true rfl)
  rw [lg_entry_eq]
  generalize (lg_sl ([.ref h0, .int v]) ++ List.replicate (2 - (lg_sl ([.ref h0, .int v])).length) Slot.unset).toArray = ls at hl ⊢
  have hl : lv_has ls 2 [(0, .ref h0), (1, .int v)] := hl
  refine z_begin z (fun H locs z => ?_)
  have hjI : nI j < 4000 := z_nI_lt hj (by decide)
  refine lv_aload_n hx hb dX0_add_0 rfl (lv_at hl 0 rfl) ?_
  refine z_get (v := .int (nI j)) (C := RX0) (T := TX0) (N := 3) hx hb hts hiX0 hown z 0 rfl rfl 1 (by decide) (show Cond.fieldLink RX0 21 "GainTrees$Bytes" "kept" "I" ∈ wsX0_add by decide +kernel) rfl rfl dX0_add_1 ?_
  refine lv_aload_n hx hb dX0_add_4 rfl (lv_at hl 0 rfl) ?_
  refine z_get (v := .ref q) (C := RX0) (T := TX0) (N := 3) hx hb hts hiX0 hown z 0 rfl rfl 0 (by decide) (show Cond.fieldLink RX0 15 "GainTrees$Bytes" "data" "[B" ∈ wsX0_add by decide +kernel) rfl rfl dX0_add_5 ?_
  refine z_alen (v := 4000) hx hb z 1 0 rfl rfl rfl dX0_add_8 ?_
  refine lv_icmp_ge (tgt := 33) hx hb dX0_add_9 (by decide) (fun c_1 => absurd hjI (Int32.not_lt.mpr c_1)) (fun c_1 => ?_)
  refine lv_aload_n hx hb dX0_add_12 rfl (lv_at hl 0 rfl) ?_
  refine z_get (v := .ref q) (C := RX0) (T := TX0) (N := 3) hx hb hts hiX0 hown z 0 rfl rfl 0 (by decide) (show Cond.fieldLink RX0 15 "GainTrees$Bytes" "data" "[B" ∈ wsX0_add by decide +kernel) rfl rfl dX0_add_13 ?_
  refine lv_aload_n hx hb dX0_add_16 rfl (lv_at hl 0 rfl) ?_
  refine z_get (v := .int (nI j)) (C := RX0) (T := TX0) (N := 3) hx hb hts hiX0 hown z 0 rfl rfl 1 (by decide) (show Cond.fieldLink RX0 21 "GainTrees$Bytes" "kept" "I" ∈ wsX0_add by decide +kernel) rfl rfl dX0_add_17 ?_
  refine lv_iload_n hx hb dX0_add_20 rfl (lv_at hl 1 rfl) ?_
  refine lv_i2b hx hb dX0_add_21 rfl ?_
  refine lv_topi (fun v_2 ev_2 => ?_)
  refine z_bast hx hb z 1 0 rfl rfl (vp_in_nI hj (by decide)) dX0_add_22 (fun g_3 H locs z => ?_)
  have z : zw D [(h0, .inr (0, [.ref q, .int (nI j), .int (nI j)])), (q, .inl (cA, 4000, .inl g_3))] [(cA, .byte)] A s.heap s H locs := z
  refine lv_aload_n hx hb dX0_add_23 rfl (lv_at hl 0 rfl) ?_
  refine lv_dup hx hb dX0_add_24 rfl ?_
  refine z_get (v := .int (nI j)) (C := RX0) (T := TX0) (N := 3) hx hb hts hiX0 hown z 0 rfl rfl 1 (by decide) (show Cond.fieldLink RX0 21 "GainTrees$Bytes" "kept" "I" ∈ wsX0_add by decide +kernel) rfl rfl dX0_add_25 ?_
  refine lv_iconst (v := 1) hx hb dX0_add_28 (by decide) ?_
  refine lv_iadd hx hb dX0_add_29 ?_
  refine z_ti (y := nI (j + 1)) (nI_1 j) ?_
  refine z_put (v := .int (nI (j + 1))) (C := RX0) (T := TX0) (N := 3) hx hb hts hiX0 tyX0 tyX0_ok nmX0 hown z 0 rfl rfl 1 (by decide) (show Cond.fieldLink RX0 21 "GainTrees$Bytes" "kept" "I" ∈ wsX0_add by decide +kernel) rfl rfl rfl rfl (Nat.le_of_ble_eq_true rfl) dX0_add_30 (fun H locs z => ?_)
  have z : zw D [(h0, .inr (0, [.ref q, .int (nI (j + 1)), .int (nI j)])), (q, .inl (cA, 4000, .inl g_3))] [(cA, .byte)] A s.heap s H locs := z
  refine lv_aload_n hx hb dX0_add_33 rfl (lv_at hl 0 rfl) ?_
  refine lv_dup hx hb dX0_add_34 rfl ?_
  refine z_get (v := .int (nI j)) (C := RX0) (T := TX0) (N := 3) hx hb hts hiX0 hown z 0 rfl rfl 2 (by decide) (show Cond.fieldLink RX0 25 "GainTrees$Bytes" "told" "I" ∈ wsX0_add by decide +kernel) rfl rfl dX0_add_35 ?_
  refine lv_iconst (v := 1) hx hb dX0_add_38 (by decide) ?_
  refine lv_iadd hx hb dX0_add_39 ?_
  refine z_ti (y := nI (j + 1)) (nI_1 j) ?_
  refine z_put (v := .int (nI (j + 1))) (C := RX0) (T := TX0) (N := 3) hx hb hts hiX0 tyX0 tyX0_ok nmX0 hown z 0 rfl rfl 2 (by decide) (show Cond.fieldLink RX0 25 "GainTrees$Bytes" "told" "I" ∈ wsX0_add by decide +kernel) rfl rfl rfl rfl (Nat.le_of_ble_eq_true rfl) dX0_add_40 (fun H locs z => ?_)
  have z : zw D [(h0, .inr (0, [.ref q, .int (nI (j + 1)), .int (nI (j + 1))])), (q, .inl (cA, 4000, .inl g_3))] [(cA, .byte)] A s.heap s H locs := z
  exact z_vret hx hb hr hlocks z (fun t h => ⟨g_3, h.sub [0, 1] [] (by decide) rfl rfl⟩) (Nat.le_of_ble_eq_true rfl) (Nat.le_of_ble_eq_true rfl) dX0_add_43

set_option maxHeartbeats 4000000 in
set_option maxRecDepth 100000 in
/-- Bytes.at, of none -/
theorem c_X0_at (l : Launch) (D : va_G) (sz : Nat) (h0 : Nat) (q : Nat) (i : Int32) : Met l yX0_at wsX0_at ({ frames := 0, cells := 0, slots := 0, locals := 0 }) (va_Pc [.ref h0, .int i] (zI D [(h0, .inr (0, [.ref q, .int 0, .int 0]))] [] sz)) (va_Qi (fun (r : Int32) (_ : Unit) => (-1) = r) (fun _ t => zB D (va_A [(h0, .inr (0, [.ref q, .int 0, .int 0]))] sz) [(h0, .inr (0, [.ref q, .int 0, .int 0]))] [] t) (va_A [(h0, .inr (0, [.ref q, .int 0, .int 0]))] sz)) 0 0 (va_A [(h0, .inr (0, [.ref q, .int 0, .int 0]))] sz) := by
  refine Met.ofW (cc := cX0_at) (maxL := 2) (ret := (some .int)) (by decide) rfl ?_
  intro p e s m args below meth c s₁ B hml hv
  obtain ⟨rfl, hv⟩ := hv
  have hx := B.exec
  have hb := B.bytes
  have hr := B.returns
  have hts := atoms_spec (ws := wsX0_at) B.pre
  have hown : s.vm.findClass RX0 = some m.cls := findClass_of_methodNamed B.named
  have hlocks := B.notSynchronized
  have hiX0 : ∀ w ∈ u_ws RX0 TX0 3, w ∈ wsX0_at := (fun _ h => List.mem_cons_of_mem _ (List.mem_append_right _ h))
  obtain ⟨hsz, z⟩ := hv.start
  clear hv
  subst hsz
  generalize va_A [(h0, .inr (0, [.ref q, .int 0, .int 0]))] s.heap.size = A at z ⊢
  have hl := lv_entry ([.ref h0, .int i]) (n := 2) (Nat.le_of_ble_eq_true rfl)
  rw [lg_entry_eq]
  generalize (lg_sl ([.ref h0, .int i]) ++ List.replicate (2 - (lg_sl ([.ref h0, .int i])).length) Slot.unset).toArray = ls at hl ⊢
  have hl : lv_has ls 2 [(0, .ref h0), (1, .int i)] := hl
  refine z_begin z (fun H locs z => ?_)
  refine lv_iload_n hx hb dX0_at_0 rfl (lv_at hl 1 rfl) ?_
  refine lv_if_lt (tgt := 25) hx hb dX0_at_1 (by decide) (fun c_1 => ?_) (fun c_1 => ?_)
  · skip
    refine lv_iconst (v := (-1)) hx hb dX0_at_25 (by decide) ?_
    exact z_iret hx hb hr hlocks z (rfl) (fun t h => h.sub [0] [] (by decide) rfl rfl) (Nat.le_of_ble_eq_true rfl) (Nat.le_of_ble_eq_true rfl) dX0_at_26
  · skip
    refine lv_iload_n hx hb dX0_at_4 rfl (lv_at hl 1 rfl) ?_
    refine lv_aload_n hx hb dX0_at_5 rfl (lv_at hl 0 rfl) ?_
    refine z_get (v := .int 0) (C := RX0) (T := TX0) (N := 3) hx hb hts hiX0 hown z 0 rfl rfl 1 (by decide) (show Cond.fieldLink RX0 21 "GainTrees$Bytes" "kept" "I" ∈ wsX0_at by decide +kernel) rfl rfl dX0_at_6 ?_
    refine lv_icmp_ge (tgt := 25) hx hb dX0_at_9 (by decide) (fun c_2 => ?_) (fun c_2 => absurd (Int32.not_le.mp c_2) c_1)
    refine lv_iconst (v := (-1)) hx hb dX0_at_25 (by decide) ?_
    exact z_iret hx hb hr hlocks z (rfl) (fun t h => h.sub [0] [] (by decide) rfl rfl) (Nat.le_of_ble_eq_true rfl) (Nat.le_of_ble_eq_true rfl) dX0_at_26

set_option maxHeartbeats 4000000 in
set_option maxRecDepth 100000 in
theorem c_X0_shorten_0 (l : Launch) (D : va_G) (sz : Nat) (h0 : Nat) (q : Nat) : Met l yX0_shorten wsX0_shorten ({ frames := 0, cells := 0, slots := 0, locals := 0 }) (va_Pc [.ref h0, .int 0] (zI D [(h0, .inr (0, [.ref q, .int 0, .int 0]))] [] sz)) (va_Qv (fun (_ : Unit) => True) (fun _ t => zB D (va_A [(h0, .inr (0, [.ref q, .int 0, .int 0]))] sz) [(h0, .inr (0, [.ref q, .int 0, .int 0]))] [] t) (va_A [(h0, .inr (0, [.ref q, .int 0, .int 0]))] sz)) 0 0 (va_A [(h0, .inr (0, [.ref q, .int 0, .int 0]))] sz) := by
  refine Met.ofW (cc := cX0_shorten) (maxL := 2) (ret := none) (by decide) rfl ?_
  intro p e s m args below meth c s₁ B hml hv
  obtain ⟨rfl, hv⟩ := hv
  have hx := B.exec
  have hb := B.bytes
  have hr := B.returns
  have hts := atoms_spec (ws := wsX0_shorten) B.pre
  have hown : s.vm.findClass RX0 = some m.cls := findClass_of_methodNamed B.named
  have hlocks := B.notSynchronized
  have hiX0 : ∀ w ∈ u_ws RX0 TX0 3, w ∈ wsX0_shorten := (fun _ h => List.mem_cons_of_mem _ (List.mem_append_right _ h))
  obtain ⟨hsz, z⟩ := hv.start
  clear hv
  subst hsz
  generalize va_A [(h0, .inr (0, [.ref q, .int 0, .int 0]))] s.heap.size = A at z ⊢
  have hl := lv_entry ([.ref h0, .int 0]) (n := 2) (Nat.le_of_ble_eq_true rfl)
  rw [lg_entry_eq]
  generalize (lg_sl ([.ref h0, .int 0]) ++ List.replicate (2 - (lg_sl ([.ref h0, .int 0])).length) Slot.unset).toArray = ls at hl ⊢
  have hl : lv_has ls 2 [(0, .ref h0), (1, .int 0)] := hl
  refine z_begin z (fun H locs z => ?_)
  refine lv_iload_n hx hb dX0_shorten_0 rfl (lv_at hl 1 rfl) ?_
  refine lv_if_lt (tgt := 22) hx hb dX0_shorten_1 (by decide) (fun c_1 => absurd c_1 (by decide)) (fun c_1 => ?_)
  refine lv_iload_n hx hb dX0_shorten_4 rfl (lv_at hl 1 rfl) ?_
  refine lv_aload_n hx hb dX0_shorten_5 rfl (lv_at hl 0 rfl) ?_
  refine z_get (v := .int 0) (C := RX0) (T := TX0) (N := 3) hx hb hts hiX0 hown z 0 rfl rfl 1 (by decide) (show Cond.fieldLink RX0 21 "GainTrees$Bytes" "kept" "I" ∈ wsX0_shorten by decide +kernel) rfl rfl dX0_shorten_6 ?_
  refine lv_icmp_gt (tgt := 22) hx hb dX0_shorten_9 (by decide) (fun c_2 => absurd c_2 (by decide)) (fun c_2 => ?_)
  refine lv_aload_n hx hb dX0_shorten_12 rfl (lv_at hl 0 rfl) ?_
  refine lv_iload_n hx hb dX0_shorten_13 rfl (lv_at hl 1 rfl) ?_
  refine z_put (v := .int 0) (C := RX0) (T := TX0) (N := 3) hx hb hts hiX0 tyX0 tyX0_ok nmX0 hown z 0 rfl rfl 1 (by decide) (show Cond.fieldLink RX0 21 "GainTrees$Bytes" "kept" "I" ∈ wsX0_shorten by decide +kernel) rfl rfl rfl rfl (Nat.le_of_ble_eq_true rfl) dX0_shorten_14 (fun H locs z => ?_)
  have z : zw D [(h0, .inr (0, [.ref q, .int 0, .int 0]))] [] A s.heap s H locs := z
  refine lv_aload_n hx hb dX0_shorten_17 rfl (lv_at hl 0 rfl) ?_
  refine lv_iload_n hx hb dX0_shorten_18 rfl (lv_at hl 1 rfl) ?_
  refine z_put (v := .int 0) (C := RX0) (T := TX0) (N := 3) hx hb hts hiX0 tyX0 tyX0_ok nmX0 hown z 0 rfl rfl 2 (by decide) (show Cond.fieldLink RX0 25 "GainTrees$Bytes" "told" "I" ∈ wsX0_shorten by decide +kernel) rfl rfl rfl rfl (Nat.le_of_ble_eq_true rfl) dX0_shorten_19 (fun H locs z => ?_)
  have z : zw D [(h0, .inr (0, [.ref q, .int 0, .int 0]))] [] A s.heap s H locs := z
  exact z_vret hx hb hr hlocks z (fun t h => h.sub [0] [] (by decide) rfl rfl) (Nat.le_of_ble_eq_true rfl) (Nat.le_of_ble_eq_true rfl) dX0_shorten_22

set_option maxHeartbeats 4000000 in
set_option maxRecDepth 100000 in
theorem c_X0_shorten_n (l : Launch) (D : va_G) (sz : Nat) (h0 : Nat) (q : Nat) (n : Int32) : Met l yX0_shorten wsX0_shorten ({ frames := 0, cells := 0, slots := 0, locals := 0 }) (va_Pc [.ref h0, .int n] (zI D [(h0, .inr (0, [.ref q, .int 0, .int 0]))] [] sz)) (va_Qv (fun (_ : Unit) => True) (fun _ t => zB D (va_A [(h0, .inr (0, [.ref q, .int 0, .int 0]))] sz) [] [] t) (va_A [(h0, .inr (0, [.ref q, .int 0, .int 0]))] sz)) 0 0 (va_A [(h0, .inr (0, [.ref q, .int 0, .int 0]))] sz) := by
  refine Met.ofW (cc := cX0_shorten) (maxL := 2) (ret := none) (by decide) rfl ?_
  intro p e s m args below meth c s₁ B hml hv
  obtain ⟨rfl, hv⟩ := hv
  have hx := B.exec
  have hb := B.bytes
  have hr := B.returns
  have hts := atoms_spec (ws := wsX0_shorten) B.pre
  have hown : s.vm.findClass RX0 = some m.cls := findClass_of_methodNamed B.named
  have hlocks := B.notSynchronized
  have hiX0 : ∀ w ∈ u_ws RX0 TX0 3, w ∈ wsX0_shorten := (fun _ h => List.mem_cons_of_mem _ (List.mem_append_right _ h))
  obtain ⟨hsz, z⟩ := hv.start
  clear hv
  subst hsz
  generalize va_A [(h0, .inr (0, [.ref q, .int 0, .int 0]))] s.heap.size = A at z ⊢
  have hl := lv_entry ([.ref h0, .int n]) (n := 2) (Nat.le_of_ble_eq_true rfl)
  rw [lg_entry_eq]
  generalize (lg_sl ([.ref h0, .int n]) ++ List.replicate (2 - (lg_sl ([.ref h0, .int n])).length) Slot.unset).toArray = ls at hl ⊢
  have hl : lv_has ls 2 [(0, .ref h0), (1, .int n)] := hl
  refine z_begin z (fun H locs z => ?_)
  refine lv_iload_n hx hb dX0_shorten_0 rfl (lv_at hl 1 rfl) ?_
  refine lv_if_lt (tgt := 22) hx hb dX0_shorten_1 (by decide) (fun c_1 => ?_) (fun c_1 => ?_)
  · skip
    exact z_vret hx hb hr hlocks z (fun t h => h.sub [] [] (by decide) rfl rfl) (Nat.le_of_ble_eq_true rfl) (Nat.le_of_ble_eq_true rfl) dX0_shorten_22
  · skip
    refine lv_iload_n hx hb dX0_shorten_4 rfl (lv_at hl 1 rfl) ?_
    refine lv_aload_n hx hb dX0_shorten_5 rfl (lv_at hl 0 rfl) ?_
    refine z_get (v := .int 0) (C := RX0) (T := TX0) (N := 3) hx hb hts hiX0 hown z 0 rfl rfl 1 (by decide) (show Cond.fieldLink RX0 21 "GainTrees$Bytes" "kept" "I" ∈ wsX0_shorten by decide +kernel) rfl rfl dX0_shorten_6 ?_
    refine lv_icmp_gt (tgt := 22) hx hb dX0_shorten_9 (by decide) (fun c_2 => ?_) (fun c_2 => ?_)
    · skip
      exact z_vret hx hb hr hlocks z (fun t h => h.sub [] [] (by decide) rfl rfl) (Nat.le_of_ble_eq_true rfl) (Nat.le_of_ble_eq_true rfl) dX0_shorten_22
    · skip
      refine lv_aload_n hx hb dX0_shorten_12 rfl (lv_at hl 0 rfl) ?_
      refine lv_iload_n hx hb dX0_shorten_13 rfl (lv_at hl 1 rfl) ?_
      refine z_put (v := .int n) (C := RX0) (T := TX0) (N := 3) hx hb hts hiX0 tyX0 tyX0_ok nmX0 hown z 0 rfl rfl 1 (by decide) (show Cond.fieldLink RX0 21 "GainTrees$Bytes" "kept" "I" ∈ wsX0_shorten by decide +kernel) rfl rfl rfl rfl (Nat.le_of_ble_eq_true rfl) dX0_shorten_14 (fun H locs z => ?_)
      have z : zw D [(h0, .inr (0, [.ref q, .int n, .int 0]))] [] A s.heap s H locs := z
      refine lv_aload_n hx hb dX0_shorten_17 rfl (lv_at hl 0 rfl) ?_
      refine lv_iload_n hx hb dX0_shorten_18 rfl (lv_at hl 1 rfl) ?_
      refine z_put (v := .int n) (C := RX0) (T := TX0) (N := 3) hx hb hts hiX0 tyX0 tyX0_ok nmX0 hown z 0 rfl rfl 2 (by decide) (show Cond.fieldLink RX0 25 "GainTrees$Bytes" "told" "I" ∈ wsX0_shorten by decide +kernel) rfl rfl rfl rfl (Nat.le_of_ble_eq_true rfl) dX0_shorten_19 (fun H locs z => ?_)
      have z : zw D [(h0, .inr (0, [.ref q, .int n, .int n]))] [] A s.heap s H locs := z
      exact z_vret hx hb hr hlocks z (fun t h => h.sub [] [] (by decide) rfl rfl) (Nat.le_of_ble_eq_true rfl) (Nat.le_of_ble_eq_true rfl) dX0_shorten_22

set_option maxHeartbeats 4000000 in
set_option maxRecDepth 100000 in
/-- Names() -/
theorem c_X2_init (l : Launch) (D : va_G) (sz : Nat) (h0 : Nat) : Met l yX2_init wsX2_init ({ frames := 1, cells := 3, slots := 1022, locals := 20 }) (va_Pc [.ref h0] (zI D [(h0, .inr (2, [.null, .null, .null, .int 0, .int 0]))] [] sz)) (va_Qv (fun (_ : Unit) => True) (fun _ t => ∃ q1 : Nat, ∃ q2 : Nat, ∃ q3 : Nat, zB D (va_A [(h0, .inr (2, [.null, .null, .null, .int 0, .int 0]))] sz) [(h0, .inr (2, [.ref q1, .ref q2, .ref q3, .int 0, .int 0]))] [] t) (va_A [(h0, .inr (2, [.null, .null, .null, .int 0, .int 0]))] sz)) 3 1022 (va_A [(h0, .inr (2, [.null, .null, .null, .int 0, .int 0]))] sz) := by
  refine Met.ofW (cc := cX2_init) (maxL := 1) (ret := none) (by decide) rfl ?_
  intro p e s m args below meth c s₁ B hml hv
  obtain ⟨rfl, hv⟩ := hv
  have hx := B.exec
  have hb := B.bytes
  have hr := B.returns
  have hts := atoms_spec (ws := wsX2_init) B.pre
  have hown : s.vm.findClass RX2 = some m.cls := findClass_of_methodNamed B.named
  have hlocks := B.notSynchronized
  have hiX2 : ∀ w ∈ u_ws RX2 TX2 5, w ∈ wsX2_init := (fun _ h => List.mem_cons_of_mem _ (List.mem_append_right _ h))
  have hin : meth.name = "<init>" := (name_of_methodNamed B.named B.method).1
  obtain ⟨hsz, z⟩ := hv.start
  clear hv
  subst hsz
  generalize va_A [(h0, .inr (2, [.null, .null, .null, .int 0, .int 0]))] s.heap.size = A at z ⊢
  have hl := lv_entry ([.ref h0]) (n := 1) (Nat.le_of_ble_eq_true rfl)
  rw [lg_entry_eq]
  generalize (lg_sl ([.ref h0]) ++ List.replicate (1 - (lg_sl ([.ref h0])).length) Slot.unset).toArray = ls at hl ⊢
  have hl : lv_has ls 1 [(0, .ref h0)] := hl
  refine z_begin z (fun H locs z => ?_)
  refine lv_aload_n hx hb dX2_init_0 rfl (lv_at hl 0 rfl) ?_
  refine W.objInit hx hb hown (hts (.methodLink RX2 5 objectInit) (by decide +kernel)) (hts (.instanceMethod objectInit) (by decide +kernel)) (hts (.code objectInit ⟨#[0xb1]⟩ 1 none) (by decide +kernel)) rfl (by rw [hml]; exact hl.1) rfl dX2_init_1 (Nat.le_of_ble_eq_true rfl) (Nat.le_of_ble_eq_true rfl) ?_
  refine W.eq (g2 := F0 m 4 ls []) rfl ?_
  refine lv_aload_n hx hb dX2_init_4 rfl (lv_at hl 0 rfl) ?_
  refine lv_sipush (v := 936) hx hb dX2_init_5 (by decide) ?_
  refine z_newa (atype := .byte) (ty := .byte) (a0 := (936, .inl (fun _ => 0))) hx hb hts (show Cond.arrayClass .byte ∈ wsX2_init by decide +kernel) rfl z (fun _ => rfl) (by decide) (by decide) (by decide) (cells' := 1) (slots' := 936) (Nat.le_of_ble_eq_true rfl) (Nat.le_of_ble_eq_true rfl) rfl rfl dX2_init_8 (fun q_1 cA_2 H z => ?_)
  have z : zw D [(h0, .inr (2, [.null, .null, .null, .int 0, .int 0])), (q_1, .inl (cA_2, 936, .inl (fun _ => 0)))] [(cA_2, .byte)] A s.heap s H locs := z
  refine z_putF (v := .ref q_1) (C := RX2) (T := TX2) (N := 5) hx hb hts hiX2 tyX2 tyX2_ok nmX2 hown hin z 0 rfl rfl 0 (by decide) (show Cond.fieldLink RX2 11 "GainTrees$Names" "letters" "[B" ∈ wsX2_init by decide +kernel) rfl rfl rfl rfl rfl (Nat.le_of_ble_eq_true rfl) dX2_init_10 (fun H locs z => ?_)
  have z : zw D [(h0, .inr (2, [.ref q_1, .null, .null, .int 0, .int 0])), (q_1, .inl (cA_2, 936, .inl (fun _ => 0)))] [(cA_2, .byte)] A s.heap s H locs := z
  refine lv_aload_n hx hb dX2_init_13 rfl (lv_at hl 0 rfl) ?_
  refine lv_bipush (v := 78) hx hb dX2_init_14 (by decide) ?_
  refine z_newa (atype := .int) (ty := .int) (a0 := (78, .inl (fun _ => 0))) hx hb hts (show Cond.arrayClass .int ∈ wsX2_init by decide +kernel) rfl z (fun _ => rfl) (by decide) (by decide) (by decide) (cells' := 2) (slots' := 1014) (Nat.le_of_ble_eq_true rfl) (Nat.le_of_ble_eq_true rfl) rfl rfl dX2_init_16 (fun q_3 cA_4 H z => ?_)
  have z : zw D [(h0, .inr (2, [.ref q_1, .null, .null, .int 0, .int 0])), (q_1, .inl (cA_2, 936, .inl (fun _ => 0))), (q_3, .inl (cA_4, 78, .inl (fun _ => 0)))] [(cA_2, .byte), (cA_4, .int)] A s.heap s H locs := z
  refine z_putF (v := .ref q_3) (C := RX2) (T := TX2) (N := 5) hx hb hts hiX2 tyX2 tyX2_ok nmX2 hown hin z 0 rfl rfl 1 (by decide) (show Cond.fieldLink RX2 15 "GainTrees$Names" "lengths" "[I" ∈ wsX2_init by decide +kernel) rfl rfl rfl rfl rfl (Nat.le_of_ble_eq_true rfl) dX2_init_18 (fun H locs z => ?_)
  have z : zw D [(h0, .inr (2, [.ref q_1, .ref q_3, .null, .int 0, .int 0])), (q_1, .inl (cA_2, 936, .inl (fun _ => 0))), (q_3, .inl (cA_4, 78, .inl (fun _ => 0)))] [(cA_2, .byte), (cA_4, .int)] A s.heap s H locs := z
  refine lv_aload_n hx hb dX2_init_21 rfl (lv_at hl 0 rfl) ?_
  refine lv_bipush (v := 8) hx hb dX2_init_22 (by decide) ?_
  refine z_newa (atype := .int) (ty := .int) (a0 := (8, .inl (fun _ => 0))) hx hb hts (show Cond.arrayClass .int ∈ wsX2_init by decide +kernel) rfl z (fun _ => rfl) (by decide) (by decide) (by decide) (cells' := 3) (slots' := 1022) (Nat.le_of_ble_eq_true rfl) (Nat.le_of_ble_eq_true rfl) rfl rfl dX2_init_24 (fun q_5 cA_6 H z => ?_)
  have z : zw D [(h0, .inr (2, [.ref q_1, .ref q_3, .null, .int 0, .int 0])), (q_1, .inl (cA_2, 936, .inl (fun _ => 0))), (q_3, .inl (cA_4, 78, .inl (fun _ => 0))), (q_5, .inl (cA_6, 8, .inl (fun _ => 0)))] [(cA_2, .byte), (cA_4, .int), (cA_6, .int)] A s.heap s H locs := z
  refine z_putF (v := .ref q_5) (C := RX2) (T := TX2) (N := 5) hx hb hts hiX2 tyX2 tyX2_ok nmX2 hown hin z 0 rfl rfl 2 (by decide) (show Cond.fieldLink RX2 19 "GainTrees$Names" "values" "[I" ∈ wsX2_init by decide +kernel) rfl rfl rfl rfl rfl (Nat.le_of_ble_eq_true rfl) dX2_init_26 (fun H locs z => ?_)
  have z : zw D [(h0, .inr (2, [.ref q_1, .ref q_3, .ref q_5, .int 0, .int 0])), (q_1, .inl (cA_2, 936, .inl (fun _ => 0))), (q_3, .inl (cA_4, 78, .inl (fun _ => 0))), (q_5, .inl (cA_6, 8, .inl (fun _ => 0)))] [(cA_2, .byte), (cA_4, .int), (cA_6, .int)] A s.heap s H locs := z
  exact z_vret hx hb hr hlocks z (fun t h => ⟨q_1, q_3, q_5, h.sub [0] [] (by decide) rfl rfl⟩) (Nat.le_of_ble_eq_true rfl) (Nat.le_of_ble_eq_true rfl) dX2_init_29

set_option maxHeartbeats 4000000 in
set_option maxRecDepth 100000 in
theorem c_X2_wipe (l : Launch) (D : va_G) (sz : Nat) (kn : Nat) (kn1 : Nat) (kn2 : Nat) (kn3 : Nat) : Met l yX2_wipe wsX2_wipe ({ frames := 0, cells := 0, slots := 0, locals := 0 }) (va_Pc [.ref kn] (zI D [(kn, .inr (2, [.ref kn1, .ref kn2, .ref kn3, .int 0, .int 0]))] [] sz)) (va_Qv (fun (_ : Unit) => True) (fun _ t => zB D (va_A [(kn, .inr (2, [.ref kn1, .ref kn2, .ref kn3, .int 0, .int 0]))] sz) [(kn, .inr (2, [.ref kn1, .ref kn2, .ref kn3, .int 0, .int 0]))] [] t) (va_A [(kn, .inr (2, [.ref kn1, .ref kn2, .ref kn3, .int 0, .int 0]))] sz)) 0 0 (va_A [(kn, .inr (2, [.ref kn1, .ref kn2, .ref kn3, .int 0, .int 0]))] sz) := by
  refine Met.ofW (cc := cX2_wipe) (maxL := 1) (ret := none) (by decide) rfl ?_
  intro p e s m args below meth c s₁ B hml hv
  obtain ⟨rfl, hv⟩ := hv
  have hx := B.exec
  have hb := B.bytes
  have hr := B.returns
  have hts := atoms_spec (ws := wsX2_wipe) B.pre
  have hown : s.vm.findClass RX2 = some m.cls := findClass_of_methodNamed B.named
  have hlocks := B.notSynchronized
  have hiX2 : ∀ w ∈ u_ws RX2 TX2 5, w ∈ wsX2_wipe := (fun _ h => List.mem_cons_of_mem _ (List.mem_append_right _ h))
  obtain ⟨hsz, z⟩ := hv.start
  clear hv
  subst hsz
  generalize va_A [(kn, .inr (2, [.ref kn1, .ref kn2, .ref kn3, .int 0, .int 0]))] s.heap.size = A at z ⊢
  have hl := lv_entry ([.ref kn]) (n := 1) (Nat.le_of_ble_eq_true rfl)
  rw [lg_entry_eq]
  generalize (lg_sl ([.ref kn]) ++ List.replicate (1 - (lg_sl ([.ref kn])).length) Slot.unset).toArray = ls at hl ⊢
  have hl : lv_has ls 1 [(0, .ref kn)] := hl
  refine z_begin z (fun H locs z => ?_)
  refine lv_aload_n hx hb dX2_wipe_0 rfl (lv_at hl 0 rfl) ?_
  refine lv_iconst (v := 0) hx hb dX2_wipe_1 (by decide) ?_
  refine z_put (v := .int 0) (C := RX2) (T := TX2) (N := 5) hx hb hts hiX2 tyX2 tyX2_ok nmX2 hown z 0 rfl rfl 3 (by decide) (show Cond.fieldLink RX2 22 "GainTrees$Names" "classes" "I" ∈ wsX2_wipe by decide +kernel) rfl rfl rfl rfl (Nat.le_of_ble_eq_true rfl) dX2_wipe_2 (fun H locs z => ?_)
  have z : zw D [(kn, .inr (2, [.ref kn1, .ref kn2, .ref kn3, .int 0, .int 0]))] [] A s.heap s H locs := z
  refine lv_aload_n hx hb dX2_wipe_5 rfl (lv_at hl 0 rfl) ?_
  refine lv_iconst (v := 0) hx hb dX2_wipe_6 (by decide) ?_
  refine z_put (v := .int 0) (C := RX2) (T := TX2) (N := 5) hx hb hts hiX2 tyX2 tyX2_ok nmX2 hown z 0 rfl rfl 4 (by decide) (show Cond.fieldLink RX2 26 "GainTrees$Names" "attributes" "I" ∈ wsX2_wipe by decide +kernel) rfl rfl rfl rfl (Nat.le_of_ble_eq_true rfl) dX2_wipe_7 (fun H locs z => ?_)
  have z : zw D [(kn, .inr (2, [.ref kn1, .ref kn2, .ref kn3, .int 0, .int 0]))] [] A s.heap s H locs := z
  exact z_vret hx hb hr hlocks z (fun t h => h.sub [0] [] (by decide) rfl rfl) (Nat.le_of_ble_eq_true rfl) (Nat.le_of_ble_eq_true rfl) dX2_wipe_10

set_option maxHeartbeats 4000000 in
set_option maxRecDepth 100000 in
/-- Names.valuesOf, of none -/
theorem c_X2_valuesOf (l : Launch) (D : va_G) (sz : Nat) (kn : Nat) (kn1 : Nat) (kn2 : Nat) (kn3 : Nat) (k : Int32) : Met l yX2_valuesOf wsX2_valuesOf ({ frames := 0, cells := 0, slots := 0, locals := 0 }) (va_Pc [.ref kn, .int k] (zI D [(kn, .inr (2, [.ref kn1, .ref kn2, .ref kn3, .int 0, .int 0]))] [] sz)) (va_Qi (fun (r : Int32) (_ : Unit) => (-1) = r) (fun _ t => zB D (va_A [(kn, .inr (2, [.ref kn1, .ref kn2, .ref kn3, .int 0, .int 0]))] sz) [] [] t) (va_A [(kn, .inr (2, [.ref kn1, .ref kn2, .ref kn3, .int 0, .int 0]))] sz)) 0 0 (va_A [(kn, .inr (2, [.ref kn1, .ref kn2, .ref kn3, .int 0, .int 0]))] sz) := by
  refine Met.ofW (cc := cX2_valuesOf) (maxL := 2) (ret := (some .int)) (by decide) rfl ?_
  intro p e s m args below meth c s₁ B hml hv
  obtain ⟨rfl, hv⟩ := hv
  have hx := B.exec
  have hb := B.bytes
  have hr := B.returns
  have hts := atoms_spec (ws := wsX2_valuesOf) B.pre
  have hown : s.vm.findClass RX2 = some m.cls := findClass_of_methodNamed B.named
  have hlocks := B.notSynchronized
  have hiX2 : ∀ w ∈ u_ws RX2 TX2 5, w ∈ wsX2_valuesOf := (fun _ h => List.mem_cons_of_mem _ (List.mem_append_right _ h))
  obtain ⟨hsz, z⟩ := hv.start
  clear hv
  subst hsz
  generalize va_A [(kn, .inr (2, [.ref kn1, .ref kn2, .ref kn3, .int 0, .int 0]))] s.heap.size = A at z ⊢
  have hl := lv_entry ([.ref kn, .int k]) (n := 2) (Nat.le_of_ble_eq_true rfl)
  rw [lg_entry_eq]
  generalize (lg_sl ([.ref kn, .int k]) ++ List.replicate (2 - (lg_sl ([.ref kn, .int k])).length) Slot.unset).toArray = ls at hl ⊢
  have hl : lv_has ls 2 [(0, .ref kn), (1, .int k)] := hl
  refine z_begin z (fun H locs z => ?_)
  refine lv_iload_n hx hb dX2_valuesOf_0 rfl (lv_at hl 1 rfl) ?_
  refine lv_if_lt (tgt := 21) hx hb dX2_valuesOf_1 (by decide) (fun c_1 => ?_) (fun c_1 => ?_)
  · skip
    refine lv_iconst (v := (-1)) hx hb dX2_valuesOf_21 (by decide) ?_
    exact z_iret hx hb hr hlocks z (rfl) (fun t h => h.sub [] [] (by decide) rfl rfl) (Nat.le_of_ble_eq_true rfl) (Nat.le_of_ble_eq_true rfl) dX2_valuesOf_22
  · skip
    refine lv_iload_n hx hb dX2_valuesOf_4 rfl (lv_at hl 1 rfl) ?_
    refine lv_aload_n hx hb dX2_valuesOf_5 rfl (lv_at hl 0 rfl) ?_
    refine z_get (v := .int 0) (C := RX2) (T := TX2) (N := 5) hx hb hts hiX2 hown z 0 rfl rfl 4 (by decide) (show Cond.fieldLink RX2 26 "GainTrees$Names" "attributes" "I" ∈ wsX2_valuesOf by decide +kernel) rfl rfl dX2_valuesOf_6 ?_
    refine lv_icmp_ge (tgt := 21) hx hb dX2_valuesOf_9 (by decide) (fun c_2 => ?_) (fun c_2 => absurd (Int32.not_le.mp c_2) c_1)
    refine lv_iconst (v := (-1)) hx hb dX2_valuesOf_21 (by decide) ?_
    exact z_iret hx hb hr hlocks z (rfl) (fun t h => h.sub [] [] (by decide) rfl rfl) (Nat.le_of_ble_eq_true rfl) (Nat.le_of_ble_eq_true rfl) dX2_valuesOf_22

set_option maxHeartbeats 4000000 in
set_option maxRecDepth 100000 in
/-- Table(200) -/
theorem c_X8_init_200 (l : Launch) (D : va_G) (sz : Nat) (h0 : Nat) : Met l yX8_init wsX8_init ({ frames := 1, cells := 1, slots := 1800, locals := 21 }) (va_Pc [.ref h0, .int 200] (zI D [(h0, .inr (8, [.int 0, .null, .int 0]))] [] sz)) (va_Qv (fun (_ : Unit) => True) (fun _ t => ∃ q : Nat, zB D (va_A [(h0, .inr (8, [.int 0, .null, .int 0]))] sz) [(h0, .inr (8, [.int 200, .ref q, .int 0]))] [] t) (va_A [(h0, .inr (8, [.int 0, .null, .int 0]))] sz)) 1 1800 (va_A [(h0, .inr (8, [.int 0, .null, .int 0]))] sz) := by
  refine Met.ofW (cc := cX8_init) (maxL := 2) (ret := none) (by decide) rfl ?_
  intro p e s m args below meth c s₁ B hml hv
  obtain ⟨rfl, hv⟩ := hv
  have hx := B.exec
  have hb := B.bytes
  have hr := B.returns
  have hts := atoms_spec (ws := wsX8_init) B.pre
  have hown : s.vm.findClass RX8 = some m.cls := findClass_of_methodNamed B.named
  have hlocks := B.notSynchronized
  have hiX8 : ∀ w ∈ u_ws RX8 TX8 3, w ∈ wsX8_init := (fun _ h => List.mem_cons_of_mem _ (List.mem_append_right _ h))
  have hin : meth.name = "<init>" := (name_of_methodNamed B.named B.method).1
  obtain ⟨hsz, z⟩ := hv.start
  clear hv
  subst hsz
  generalize va_A [(h0, .inr (8, [.int 0, .null, .int 0]))] s.heap.size = A at z ⊢
  have hl := lv_entry ([.ref h0, .int 200]) (n := 2) (Nat.le_of_ble_eq_true rfl)
  rw [lg_entry_eq]
  generalize (lg_sl ([.ref h0, .int 200]) ++ List.replicate (2 - (lg_sl ([.ref h0, .int 200])).length) Slot.unset).toArray = ls at hl ⊢
  have hl : lv_has ls 2 [(0, .ref h0), (1, .int 200)] := hl
  refine z_begin z (fun H locs z => ?_)
  refine lv_aload_n hx hb dX8_init_0 rfl (lv_at hl 0 rfl) ?_
  refine W.objInit hx hb hown (hts (.methodLink RX8 3 objectInit) (by decide +kernel)) (hts (.instanceMethod objectInit) (by decide +kernel)) (hts (.code objectInit ⟨#[0xb1]⟩ 1 none) (by decide +kernel)) rfl (by rw [hml]; exact hl.1) rfl dX8_init_1 (Nat.le_of_ble_eq_true rfl) (Nat.le_of_ble_eq_true rfl) ?_
  refine W.eq (g2 := F0 m 4 ls []) rfl ?_
  refine lv_aload_n hx hb dX8_init_4 rfl (lv_at hl 0 rfl) ?_
  refine lv_iload_n hx hb dX8_init_5 rfl (lv_at hl 1 rfl) ?_
  refine lv_iconst (v := 0) hx hb dX8_init_6 (by decide) ?_
  refine va_mmax hx hb (hml.trans hl.1.symm) hown (hts (.methodLink RX8 9 Lib.Math.max.name) (by decide +kernel)) (hts (.static Lib.Math.max.name) (by decide +kernel)) (hts (.initialized "java/lang/Math") (by decide +kernel)) (hts (.code Lib.Math.max.name Lib.Math.max.code 2 (some .int)) (by decide +kernel)) (Nat.le_of_ble_eq_true rfl) (Nat.le_of_ble_eq_true rfl) (Nat.le_of_ble_eq_true rfl) (Nat.le_of_ble_eq_true rfl) dX8_init_7 ?_
  refine z_ti (y := 200) (by decide) ?_
  refine z_putF (v := .int 200) (C := RX8) (T := TX8) (N := 3) hx hb hts hiX8 tyX8 tyX8_ok nmX8 hown hin z 0 rfl rfl 0 (by decide) (show Cond.fieldLink RX8 15 "GainTrees$Table" "most" "I" ∈ wsX8_init by decide +kernel) rfl rfl rfl rfl rfl (Nat.le_of_ble_eq_true rfl) dX8_init_10 (fun H locs z => ?_)
  have z : zw D [(h0, .inr (8, [.int 200, .null, .int 0]))] [] A s.heap s H locs := z
  refine lv_aload_n hx hb dX8_init_13 rfl (lv_at hl 0 rfl) ?_
  refine lv_aload_n hx hb dX8_init_14 rfl (lv_at hl 0 rfl) ?_
  refine z_get (v := .int 200) (C := RX8) (T := TX8) (N := 3) hx hb hts hiX8 hown z 0 rfl rfl 0 (by decide) (show Cond.fieldLink RX8 15 "GainTrees$Table" "most" "I" ∈ wsX8_init by decide +kernel) rfl rfl dX8_init_15 ?_
  refine lv_bipush (v := 9) hx hb dX8_init_18 (by decide) ?_
  refine lv_imul hx hb dX8_init_20 ?_
  refine z_ti (y := 1800) (by decide) ?_
  refine z_newa (atype := .int) (ty := .int) (a0 := (1800, .inl (fun _ => 0))) hx hb hts (show Cond.arrayClass .int ∈ wsX8_init by decide +kernel) rfl z (fun _ => rfl) (by decide) (by decide) (by decide) (cells' := 1) (slots' := 1800) (Nat.le_of_ble_eq_true rfl) (Nat.le_of_ble_eq_true rfl) rfl rfl dX8_init_21 (fun q_1 cA_2 H z => ?_)
  have z : zw D [(h0, .inr (8, [.int 200, .null, .int 0])), (q_1, .inl (cA_2, 1800, .inl (fun _ => 0)))] [(cA_2, .int)] A s.heap s H locs := z
  refine z_putF (v := .ref q_1) (C := RX8) (T := TX8) (N := 3) hx hb hts hiX8 tyX8 tyX8_ok nmX8 hown hin z 0 rfl rfl 1 (by decide) (show Cond.fieldLink RX8 21 "GainTrees$Table" "cells" "[I" ∈ wsX8_init by decide +kernel) rfl rfl rfl rfl rfl (Nat.le_of_ble_eq_true rfl) dX8_init_23 (fun H locs z => ?_)
  have z : zw D [(h0, .inr (8, [.int 200, .ref q_1, .int 0])), (q_1, .inl (cA_2, 1800, .inl (fun _ => 0)))] [(cA_2, .int)] A s.heap s H locs := z
  exact z_vret hx hb hr hlocks z (fun t h => ⟨q_1, h.sub [0] [] (by decide) rfl rfl⟩) (Nat.le_of_ble_eq_true rfl) (Nat.le_of_ble_eq_true rfl) dX8_init_26

set_option maxHeartbeats 4000000 in
set_option maxRecDepth 100000 in
/-- Table(100) -/
theorem c_X8_init_100 (l : Launch) (D : va_G) (sz : Nat) (h0 : Nat) : Met l yX8_init wsX8_init ({ frames := 1, cells := 1, slots := 900, locals := 21 }) (va_Pc [.ref h0, .int 100] (zI D [(h0, .inr (8, [.int 0, .null, .int 0]))] [] sz)) (va_Qv (fun (_ : Unit) => True) (fun _ t => ∃ q : Nat, zB D (va_A [(h0, .inr (8, [.int 0, .null, .int 0]))] sz) [(h0, .inr (8, [.int 100, .ref q, .int 0]))] [] t) (va_A [(h0, .inr (8, [.int 0, .null, .int 0]))] sz)) 1 900 (va_A [(h0, .inr (8, [.int 0, .null, .int 0]))] sz) := by
  refine Met.ofW (cc := cX8_init) (maxL := 2) (ret := none) (by decide) rfl ?_
  intro p e s m args below meth c s₁ B hml hv
  obtain ⟨rfl, hv⟩ := hv
  have hx := B.exec
  have hb := B.bytes
  have hr := B.returns
  have hts := atoms_spec (ws := wsX8_init) B.pre
  have hown : s.vm.findClass RX8 = some m.cls := findClass_of_methodNamed B.named
  have hlocks := B.notSynchronized
  have hiX8 : ∀ w ∈ u_ws RX8 TX8 3, w ∈ wsX8_init := (fun _ h => List.mem_cons_of_mem _ (List.mem_append_right _ h))
  have hin : meth.name = "<init>" := (name_of_methodNamed B.named B.method).1
  obtain ⟨hsz, z⟩ := hv.start
  clear hv
  subst hsz
  generalize va_A [(h0, .inr (8, [.int 0, .null, .int 0]))] s.heap.size = A at z ⊢
  have hl := lv_entry ([.ref h0, .int 100]) (n := 2) (Nat.le_of_ble_eq_true rfl)
  rw [lg_entry_eq]
  generalize (lg_sl ([.ref h0, .int 100]) ++ List.replicate (2 - (lg_sl ([.ref h0, .int 100])).length) Slot.unset).toArray = ls at hl ⊢
  have hl : lv_has ls 2 [(0, .ref h0), (1, .int 100)] := hl
  refine z_begin z (fun H locs z => ?_)
  refine lv_aload_n hx hb dX8_init_0 rfl (lv_at hl 0 rfl) ?_
  refine W.objInit hx hb hown (hts (.methodLink RX8 3 objectInit) (by decide +kernel)) (hts (.instanceMethod objectInit) (by decide +kernel)) (hts (.code objectInit ⟨#[0xb1]⟩ 1 none) (by decide +kernel)) rfl (by rw [hml]; exact hl.1) rfl dX8_init_1 (Nat.le_of_ble_eq_true rfl) (Nat.le_of_ble_eq_true rfl) ?_
  refine W.eq (g2 := F0 m 4 ls []) rfl ?_
  refine lv_aload_n hx hb dX8_init_4 rfl (lv_at hl 0 rfl) ?_
  refine lv_iload_n hx hb dX8_init_5 rfl (lv_at hl 1 rfl) ?_
  refine lv_iconst (v := 0) hx hb dX8_init_6 (by decide) ?_
  refine va_mmax hx hb (hml.trans hl.1.symm) hown (hts (.methodLink RX8 9 Lib.Math.max.name) (by decide +kernel)) (hts (.static Lib.Math.max.name) (by decide +kernel)) (hts (.initialized "java/lang/Math") (by decide +kernel)) (hts (.code Lib.Math.max.name Lib.Math.max.code 2 (some .int)) (by decide +kernel)) (Nat.le_of_ble_eq_true rfl) (Nat.le_of_ble_eq_true rfl) (Nat.le_of_ble_eq_true rfl) (Nat.le_of_ble_eq_true rfl) dX8_init_7 ?_
  refine z_ti (y := 100) (by decide) ?_
  refine z_putF (v := .int 100) (C := RX8) (T := TX8) (N := 3) hx hb hts hiX8 tyX8 tyX8_ok nmX8 hown hin z 0 rfl rfl 0 (by decide) (show Cond.fieldLink RX8 15 "GainTrees$Table" "most" "I" ∈ wsX8_init by decide +kernel) rfl rfl rfl rfl rfl (Nat.le_of_ble_eq_true rfl) dX8_init_10 (fun H locs z => ?_)
  have z : zw D [(h0, .inr (8, [.int 100, .null, .int 0]))] [] A s.heap s H locs := z
  refine lv_aload_n hx hb dX8_init_13 rfl (lv_at hl 0 rfl) ?_
  refine lv_aload_n hx hb dX8_init_14 rfl (lv_at hl 0 rfl) ?_
  refine z_get (v := .int 100) (C := RX8) (T := TX8) (N := 3) hx hb hts hiX8 hown z 0 rfl rfl 0 (by decide) (show Cond.fieldLink RX8 15 "GainTrees$Table" "most" "I" ∈ wsX8_init by decide +kernel) rfl rfl dX8_init_15 ?_
  refine lv_bipush (v := 9) hx hb dX8_init_18 (by decide) ?_
  refine lv_imul hx hb dX8_init_20 ?_
  refine z_ti (y := 900) (by decide) ?_
  refine z_newa (atype := .int) (ty := .int) (a0 := (900, .inl (fun _ => 0))) hx hb hts (show Cond.arrayClass .int ∈ wsX8_init by decide +kernel) rfl z (fun _ => rfl) (by decide) (by decide) (by decide) (cells' := 1) (slots' := 900) (Nat.le_of_ble_eq_true rfl) (Nat.le_of_ble_eq_true rfl) rfl rfl dX8_init_21 (fun q_1 cA_2 H z => ?_)
  have z : zw D [(h0, .inr (8, [.int 100, .null, .int 0])), (q_1, .inl (cA_2, 900, .inl (fun _ => 0)))] [(cA_2, .int)] A s.heap s H locs := z
  refine z_putF (v := .ref q_1) (C := RX8) (T := TX8) (N := 3) hx hb hts hiX8 tyX8 tyX8_ok nmX8 hown hin z 0 rfl rfl 1 (by decide) (show Cond.fieldLink RX8 21 "GainTrees$Table" "cells" "[I" ∈ wsX8_init by decide +kernel) rfl rfl rfl rfl rfl (Nat.le_of_ble_eq_true rfl) dX8_init_23 (fun H locs z => ?_)
  have z : zw D [(h0, .inr (8, [.int 100, .ref q_1, .int 0])), (q_1, .inl (cA_2, 900, .inl (fun _ => 0)))] [(cA_2, .int)] A s.heap s H locs := z
  exact z_vret hx hb hr hlocks z (fun t h => ⟨q_1, h.sub [0] [] (by decide) rfl rfl⟩) (Nat.le_of_ble_eq_true rfl) (Nat.le_of_ble_eq_true rfl) dX8_init_26

set_option maxHeartbeats 4000000 in
set_option maxRecDepth 100000 in
/-- Table(1) -/
theorem c_X8_init_1 (l : Launch) (D : va_G) (sz : Nat) (h0 : Nat) : Met l yX8_init wsX8_init ({ frames := 1, cells := 1, slots := 9, locals := 21 }) (va_Pc [.ref h0, .int 1] (zI D [(h0, .inr (8, [.int 0, .null, .int 0]))] [] sz)) (va_Qv (fun (_ : Unit) => True) (fun _ t => ∃ q : Nat, zB D (va_A [(h0, .inr (8, [.int 0, .null, .int 0]))] sz) [(h0, .inr (8, [.int 1, .ref q, .int 0]))] [] t) (va_A [(h0, .inr (8, [.int 0, .null, .int 0]))] sz)) 1 9 (va_A [(h0, .inr (8, [.int 0, .null, .int 0]))] sz) := by
  refine Met.ofW (cc := cX8_init) (maxL := 2) (ret := none) (by decide) rfl ?_
  intro p e s m args below meth c s₁ B hml hv
  obtain ⟨rfl, hv⟩ := hv
  have hx := B.exec
  have hb := B.bytes
  have hr := B.returns
  have hts := atoms_spec (ws := wsX8_init) B.pre
  have hown : s.vm.findClass RX8 = some m.cls := findClass_of_methodNamed B.named
  have hlocks := B.notSynchronized
  have hiX8 : ∀ w ∈ u_ws RX8 TX8 3, w ∈ wsX8_init := (fun _ h => List.mem_cons_of_mem _ (List.mem_append_right _ h))
  have hin : meth.name = "<init>" := (name_of_methodNamed B.named B.method).1
  obtain ⟨hsz, z⟩ := hv.start
  clear hv
  subst hsz
  generalize va_A [(h0, .inr (8, [.int 0, .null, .int 0]))] s.heap.size = A at z ⊢
  have hl := lv_entry ([.ref h0, .int 1]) (n := 2) (Nat.le_of_ble_eq_true rfl)
  rw [lg_entry_eq]
  generalize (lg_sl ([.ref h0, .int 1]) ++ List.replicate (2 - (lg_sl ([.ref h0, .int 1])).length) Slot.unset).toArray = ls at hl ⊢
  have hl : lv_has ls 2 [(0, .ref h0), (1, .int 1)] := hl
  refine z_begin z (fun H locs z => ?_)
  refine lv_aload_n hx hb dX8_init_0 rfl (lv_at hl 0 rfl) ?_
  refine W.objInit hx hb hown (hts (.methodLink RX8 3 objectInit) (by decide +kernel)) (hts (.instanceMethod objectInit) (by decide +kernel)) (hts (.code objectInit ⟨#[0xb1]⟩ 1 none) (by decide +kernel)) rfl (by rw [hml]; exact hl.1) rfl dX8_init_1 (Nat.le_of_ble_eq_true rfl) (Nat.le_of_ble_eq_true rfl) ?_
  refine W.eq (g2 := F0 m 4 ls []) rfl ?_
  refine lv_aload_n hx hb dX8_init_4 rfl (lv_at hl 0 rfl) ?_
  refine lv_iload_n hx hb dX8_init_5 rfl (lv_at hl 1 rfl) ?_
  refine lv_iconst (v := 0) hx hb dX8_init_6 (by decide) ?_
  refine va_mmax hx hb (hml.trans hl.1.symm) hown (hts (.methodLink RX8 9 Lib.Math.max.name) (by decide +kernel)) (hts (.static Lib.Math.max.name) (by decide +kernel)) (hts (.initialized "java/lang/Math") (by decide +kernel)) (hts (.code Lib.Math.max.name Lib.Math.max.code 2 (some .int)) (by decide +kernel)) (Nat.le_of_ble_eq_true rfl) (Nat.le_of_ble_eq_true rfl) (Nat.le_of_ble_eq_true rfl) (Nat.le_of_ble_eq_true rfl) dX8_init_7 ?_
  refine z_ti (y := 1) (by decide) ?_
  refine z_putF (v := .int 1) (C := RX8) (T := TX8) (N := 3) hx hb hts hiX8 tyX8 tyX8_ok nmX8 hown hin z 0 rfl rfl 0 (by decide) (show Cond.fieldLink RX8 15 "GainTrees$Table" "most" "I" ∈ wsX8_init by decide +kernel) rfl rfl rfl rfl rfl (Nat.le_of_ble_eq_true rfl) dX8_init_10 (fun H locs z => ?_)
  have z : zw D [(h0, .inr (8, [.int 1, .null, .int 0]))] [] A s.heap s H locs := z
  refine lv_aload_n hx hb dX8_init_13 rfl (lv_at hl 0 rfl) ?_
  refine lv_aload_n hx hb dX8_init_14 rfl (lv_at hl 0 rfl) ?_
  refine z_get (v := .int 1) (C := RX8) (T := TX8) (N := 3) hx hb hts hiX8 hown z 0 rfl rfl 0 (by decide) (show Cond.fieldLink RX8 15 "GainTrees$Table" "most" "I" ∈ wsX8_init by decide +kernel) rfl rfl dX8_init_15 ?_
  refine lv_bipush (v := 9) hx hb dX8_init_18 (by decide) ?_
  refine lv_imul hx hb dX8_init_20 ?_
  refine z_ti (y := 9) (by decide) ?_
  refine z_newa (atype := .int) (ty := .int) (a0 := (9, .inl (fun _ => 0))) hx hb hts (show Cond.arrayClass .int ∈ wsX8_init by decide +kernel) rfl z (fun _ => rfl) (by decide) (by decide) (by decide) (cells' := 1) (slots' := 9) (Nat.le_of_ble_eq_true rfl) (Nat.le_of_ble_eq_true rfl) rfl rfl dX8_init_21 (fun q_1 cA_2 H z => ?_)
  have z : zw D [(h0, .inr (8, [.int 1, .null, .int 0])), (q_1, .inl (cA_2, 9, .inl (fun _ => 0)))] [(cA_2, .int)] A s.heap s H locs := z
  refine z_putF (v := .ref q_1) (C := RX8) (T := TX8) (N := 3) hx hb hts hiX8 tyX8 tyX8_ok nmX8 hown hin z 0 rfl rfl 1 (by decide) (show Cond.fieldLink RX8 21 "GainTrees$Table" "cells" "[I" ∈ wsX8_init by decide +kernel) rfl rfl rfl rfl rfl (Nat.le_of_ble_eq_true rfl) dX8_init_23 (fun H locs z => ?_)
  have z : zw D [(h0, .inr (8, [.int 1, .ref q_1, .int 0])), (q_1, .inl (cA_2, 9, .inl (fun _ => 0)))] [(cA_2, .int)] A s.heap s H locs := z
  exact z_vret hx hb hr hlocks z (fun t h => ⟨q_1, h.sub [0] [] (by decide) rfl rfl⟩) (Nat.le_of_ble_eq_true rfl) (Nat.le_of_ble_eq_true rfl) dX8_init_26

set_option maxHeartbeats 4000000 in
set_option maxRecDepth 100000 in
/-- Reader(tape) -/
theorem c_X4_init (l : Launch) (D : va_G) (sz : Nat) (h0 : Nat) (t0 : Nat) : Met l yX4_init wsX4_init ({ frames := 1, cells := 0, slots := 0, locals := 20 }) (va_Pc [.ref h0, .ref t0] (zI D [(h0, .inr (4, [.null, .int 0, .int 0, .int 0, .int 0, .int 0, .long 0, .int 0, .int 0, .int 0]))] [] sz)) (va_Qv (fun (_ : Unit) => True) (fun _ t => zB D (va_A [(h0, .inr (4, [.null, .int 0, .int 0, .int 0, .int 0, .int 0, .long 0, .int 0, .int 0, .int 0]))] sz) [(h0, .inr (4, [.ref t0, .int 0, .int (-1), .int 0, .int 0, .int 0, .long 0, .int 0, .int 0, .int 0]))] [] t) (va_A [(h0, .inr (4, [.null, .int 0, .int 0, .int 0, .int 0, .int 0, .long 0, .int 0, .int 0, .int 0]))] sz)) 0 0 (va_A [(h0, .inr (4, [.null, .int 0, .int 0, .int 0, .int 0, .int 0, .long 0, .int 0, .int 0, .int 0]))] sz) := by
  refine Met.ofW (cc := cX4_init) (maxL := 2) (ret := none) (by decide) rfl ?_
  intro p e s m args below meth c s₁ B hml hv
  obtain ⟨rfl, hv⟩ := hv
  have hx := B.exec
  have hb := B.bytes
  have hr := B.returns
  have hts := atoms_spec (ws := wsX4_init) B.pre
  have hown : s.vm.findClass RX4 = some m.cls := findClass_of_methodNamed B.named
  have hlocks := B.notSynchronized
  have hiX4 : ∀ w ∈ u_ws RX4 TX4 10, w ∈ wsX4_init := (fun _ h => List.mem_cons_of_mem _ (List.mem_append_right _ h))
  have hin : meth.name = "<init>" := (name_of_methodNamed B.named B.method).1
  obtain ⟨hsz, z⟩ := hv.start
  clear hv
  subst hsz
  generalize va_A [(h0, .inr (4, [.null, .int 0, .int 0, .int 0, .int 0, .int 0, .long 0, .int 0, .int 0, .int 0]))] s.heap.size = A at z ⊢
  have hl := lv_entry ([.ref h0, .ref t0]) (n := 2) (Nat.le_of_ble_eq_true rfl)
  rw [lg_entry_eq]
  generalize (lg_sl ([.ref h0, .ref t0]) ++ List.replicate (2 - (lg_sl ([.ref h0, .ref t0])).length) Slot.unset).toArray = ls at hl ⊢
  have hl : lv_has ls 2 [(0, .ref h0), (1, .ref t0)] := hl
  refine z_begin z (fun H locs z => ?_)
  refine lv_aload_n hx hb dX4_init_0 rfl (lv_at hl 0 rfl) ?_
  refine W.objInit hx hb hown (hts (.methodLink RX4 3 objectInit) (by decide +kernel)) (hts (.instanceMethod objectInit) (by decide +kernel)) (hts (.code objectInit ⟨#[0xb1]⟩ 1 none) (by decide +kernel)) rfl (by rw [hml]; exact hl.1) rfl dX4_init_1 (Nat.le_of_ble_eq_true rfl) (Nat.le_of_ble_eq_true rfl) ?_
  refine W.eq (g2 := F0 m 4 ls []) rfl ?_
  refine lv_aload_n hx hb dX4_init_4 rfl (lv_at hl 0 rfl) ?_
  refine lv_iconst (v := (-1)) hx hb dX4_init_5 (by decide) ?_
  refine z_put (v := .int (-1)) (C := RX4) (T := TX4) (N := 10) hx hb hts hiX4 tyX4 tyX4_ok nmX4 hown z 0 rfl rfl 2 (by decide) (show Cond.fieldLink RX4 9 "GainTrees$Reader" "faultAt" "I" ∈ wsX4_init by decide +kernel) rfl rfl rfl rfl (Nat.le_of_ble_eq_true rfl) dX4_init_6 (fun H locs z => ?_)
  have z : zw D [(h0, .inr (4, [.null, .int 0, .int (-1), .int 0, .int 0, .int 0, .long 0, .int 0, .int 0, .int 0]))] [] A s.heap s H locs := z
  refine lv_aload_n hx hb dX4_init_9 rfl (lv_at hl 0 rfl) ?_
  refine lv_aload_n hx hb dX4_init_10 rfl (lv_at hl 1 rfl) ?_
  refine z_putF (v := .ref t0) (C := RX4) (T := TX4) (N := 10) hx hb hts hiX4 tyX4 tyX4_ok nmX4 hown hin z 0 rfl rfl 0 (by decide) (show Cond.fieldLink RX4 15 "GainTrees$Reader" "tape" "LGainTrees$Bytes;" ∈ wsX4_init by decide +kernel) rfl rfl rfl rfl rfl (Nat.le_of_ble_eq_true rfl) dX4_init_11 (fun H locs z => ?_)
  have z : zw D [(h0, .inr (4, [.ref t0, .int 0, .int (-1), .int 0, .int 0, .int 0, .long 0, .int 0, .int 0, .int 0]))] [] A s.heap s H locs := z
  exact z_vret hx hb hr hlocks z (fun t h => h.sub [0] [] (by decide) rfl rfl) (Nat.le_of_ble_eq_true rfl) (Nat.le_of_ble_eq_true rfl) dX4_init_14

set_option maxHeartbeats 4000000 in
set_option maxRecDepth 100000 in
/-- Writer(result) -/
theorem c_X10_init (l : Launch) (D : va_G) (sz : Nat) (h0 : Nat) (t0 : Nat) : Met l yX10_init wsX10_init ({ frames := 1, cells := 0, slots := 0, locals := 20 }) (va_Pc [.ref h0, .ref t0] (zI D [(h0, .inr (10, [.null]))] [] sz)) (va_Qv (fun (_ : Unit) => True) (fun _ t => zB D (va_A [(h0, .inr (10, [.null]))] sz) [] [] t) (va_A [(h0, .inr (10, [.null]))] sz)) 0 0 (va_A [(h0, .inr (10, [.null]))] sz) := by
  refine Met.ofW (cc := cX10_init) (maxL := 2) (ret := none) (by decide) rfl ?_
  intro p e s m args below meth c s₁ B hml hv
  obtain ⟨rfl, hv⟩ := hv
  have hx := B.exec
  have hb := B.bytes
  have hr := B.returns
  have hts := atoms_spec (ws := wsX10_init) B.pre
  have hown : s.vm.findClass RX10 = some m.cls := findClass_of_methodNamed B.named
  have hlocks := B.notSynchronized
  have hiX10 : ∀ w ∈ u_ws RX10 TX10 1, w ∈ wsX10_init := (fun _ h => List.mem_cons_of_mem _ (List.mem_append_right _ h))
  have hin : meth.name = "<init>" := (name_of_methodNamed B.named B.method).1
  obtain ⟨hsz, z⟩ := hv.start
  clear hv
  subst hsz
  generalize va_A [(h0, .inr (10, [.null]))] s.heap.size = A at z ⊢
  have hl := lv_entry ([.ref h0, .ref t0]) (n := 2) (Nat.le_of_ble_eq_true rfl)
  rw [lg_entry_eq]
  generalize (lg_sl ([.ref h0, .ref t0]) ++ List.replicate (2 - (lg_sl ([.ref h0, .ref t0])).length) Slot.unset).toArray = ls at hl ⊢
  have hl : lv_has ls 2 [(0, .ref h0), (1, .ref t0)] := hl
  refine z_begin z (fun H locs z => ?_)
  refine lv_aload_n hx hb dX10_init_0 rfl (lv_at hl 0 rfl) ?_
  refine W.objInit hx hb hown (hts (.methodLink RX10 3 objectInit) (by decide +kernel)) (hts (.instanceMethod objectInit) (by decide +kernel)) (hts (.code objectInit ⟨#[0xb1]⟩ 1 none) (by decide +kernel)) rfl (by rw [hml]; exact hl.1) rfl dX10_init_1 (Nat.le_of_ble_eq_true rfl) (Nat.le_of_ble_eq_true rfl) ?_
  refine W.eq (g2 := F0 m 4 ls []) rfl ?_
  refine lv_aload_n hx hb dX10_init_4 rfl (lv_at hl 0 rfl) ?_
  refine lv_aload_n hx hb dX10_init_5 rfl (lv_at hl 1 rfl) ?_
  refine z_putF (v := .ref t0) (C := RX10) (T := TX10) (N := 1) hx hb hts hiX10 tyX10 tyX10_ok nmX10 hown hin z 0 rfl rfl 0 (by decide) (show Cond.fieldLink RX10 9 "GainTrees$Writer" "result" "LGainTrees$Bytes;" ∈ wsX10_init by decide +kernel) rfl rfl rfl rfl rfl (Nat.le_of_ble_eq_true rfl) dX10_init_6 (fun H locs z => ?_)
  have z : zw D [(h0, .inr (10, [.ref t0]))] [] A s.heap s H locs := z
  exact z_vret hx hb hr hlocks z (fun t h => h.sub [] [] (by decide) rfl rfl) (Nat.le_of_ble_eq_true rfl) (Nat.le_of_ble_eq_true rfl) dX10_init_9

set_option maxHeartbeats 4000000 in
set_option maxRecDepth 100000 in
/-- Split() -/
theorem c_X7_init (l : Launch) (D : va_G) (sz : Nat) (h0 : Nat) : Met l yX7_init wsX7_init ({ frames := 1, cells := 2, slots := 56, locals := 20 }) (va_Pc [.ref h0] (zI D [(h0, .inr (7, [.int 0, .int 0, .int 0, .int 0, .int 0, .int 0, .null, .null, .long 0, .long 0, .long 0]))] [] sz)) (va_Qv (fun (_ : Unit) => True) (fun _ t => ∃ q1 : Nat, ∃ q2 : Nat, zB D (va_A [(h0, .inr (7, [.int 0, .int 0, .int 0, .int 0, .int 0, .int 0, .null, .null, .long 0, .long 0, .long 0]))] sz) [(h0, .inr (7, [.int 0, .int 0, .int 0, .int 0, .int 0, .int 0, .ref q1, .ref q2, .long 0, .long 0, .long 0]))] [] t) (va_A [(h0, .inr (7, [.int 0, .int 0, .int 0, .int 0, .int 0, .int 0, .null, .null, .long 0, .long 0, .long 0]))] sz)) 2 56 (va_A [(h0, .inr (7, [.int 0, .int 0, .int 0, .int 0, .int 0, .int 0, .null, .null, .long 0, .long 0, .long 0]))] sz) := by
  refine Met.ofW (cc := cX7_init) (maxL := 1) (ret := none) (by decide) rfl ?_
  intro p e s m args below meth c s₁ B hml hv
  obtain ⟨rfl, hv⟩ := hv
  have hx := B.exec
  have hb := B.bytes
  have hr := B.returns
  have hts := atoms_spec (ws := wsX7_init) B.pre
  have hown : s.vm.findClass RX7 = some m.cls := findClass_of_methodNamed B.named
  have hlocks := B.notSynchronized
  have hiX7 : ∀ w ∈ u_ws RX7 TX7 11, w ∈ wsX7_init := (fun _ h => List.mem_cons_of_mem _ (List.mem_append_right _ h))
  have hin : meth.name = "<init>" := (name_of_methodNamed B.named B.method).1
  obtain ⟨hsz, z⟩ := hv.start
  clear hv
  subst hsz
  generalize va_A [(h0, .inr (7, [.int 0, .int 0, .int 0, .int 0, .int 0, .int 0, .null, .null, .long 0, .long 0, .long 0]))] s.heap.size = A at z ⊢
  have hl := lv_entry ([.ref h0]) (n := 1) (Nat.le_of_ble_eq_true rfl)
  rw [lg_entry_eq]
  generalize (lg_sl ([.ref h0]) ++ List.replicate (1 - (lg_sl ([.ref h0])).length) Slot.unset).toArray = ls at hl ⊢
  have hl : lv_has ls 1 [(0, .ref h0)] := hl
  refine z_begin z (fun H locs z => ?_)
  refine lv_aload_n hx hb dX7_init_0 rfl (lv_at hl 0 rfl) ?_
  refine W.objInit hx hb hown (hts (.methodLink RX7 3 objectInit) (by decide +kernel)) (hts (.instanceMethod objectInit) (by decide +kernel)) (hts (.code objectInit ⟨#[0xb1]⟩ 1 none) (by decide +kernel)) rfl (by rw [hml]; exact hl.1) rfl dX7_init_1 (Nat.le_of_ble_eq_true rfl) (Nat.le_of_ble_eq_true rfl) ?_
  refine W.eq (g2 := F0 m 4 ls []) rfl ?_
  refine lv_aload_n hx hb dX7_init_4 rfl (lv_at hl 0 rfl) ?_
  refine lv_bipush (v := 8) hx hb dX7_init_5 (by decide) ?_
  refine z_newa (atype := .int) (ty := .int) (a0 := (8, .inl (fun _ => 0))) hx hb hts (show Cond.arrayClass .int ∈ wsX7_init by decide +kernel) rfl z (fun _ => rfl) (by decide) (by decide) (by decide) (cells' := 1) (slots' := 8) (Nat.le_of_ble_eq_true rfl) (Nat.le_of_ble_eq_true rfl) rfl rfl dX7_init_7 (fun q_1 cA_2 H z => ?_)
  have z : zw D [(h0, .inr (7, [.int 0, .int 0, .int 0, .int 0, .int 0, .int 0, .null, .null, .long 0, .long 0, .long 0])), (q_1, .inl (cA_2, 8, .inl (fun _ => 0)))] [(cA_2, .int)] A s.heap s H locs := z
  refine z_putF (v := .ref q_1) (C := RX7) (T := TX7) (N := 11) hx hb hts hiX7 tyX7 tyX7_ok nmX7 hown hin z 0 rfl rfl 6 (by decide) (show Cond.fieldLink RX7 9 "GainTrees$Split" "sizes" "[I" ∈ wsX7_init by decide +kernel) rfl rfl rfl rfl rfl (Nat.le_of_ble_eq_true rfl) dX7_init_9 (fun H locs z => ?_)
  have z : zw D [(h0, .inr (7, [.int 0, .int 0, .int 0, .int 0, .int 0, .int 0, .ref q_1, .null, .long 0, .long 0, .long 0])), (q_1, .inl (cA_2, 8, .inl (fun _ => 0)))] [(cA_2, .int)] A s.heap s H locs := z
  refine lv_aload_n hx hb dX7_init_12 rfl (lv_at hl 0 rfl) ?_
  refine lv_bipush (v := 48) hx hb dX7_init_13 (by decide) ?_
  refine z_newa (atype := .int) (ty := .int) (a0 := (48, .inl (fun _ => 0))) hx hb hts (show Cond.arrayClass .int ∈ wsX7_init by decide +kernel) rfl z (fun _ => rfl) (by decide) (by decide) (by decide) (cells' := 2) (slots' := 56) (Nat.le_of_ble_eq_true rfl) (Nat.le_of_ble_eq_true rfl) rfl rfl dX7_init_15 (fun q_3 cA_4 H z => ?_)
  have z : zw D [(h0, .inr (7, [.int 0, .int 0, .int 0, .int 0, .int 0, .int 0, .ref q_1, .null, .long 0, .long 0, .long 0])), (q_1, .inl (cA_2, 8, .inl (fun _ => 0))), (q_3, .inl (cA_4, 48, .inl (fun _ => 0)))] [(cA_2, .int), (cA_4, .int)] A s.heap s H locs := z
  refine z_putF (v := .ref q_3) (C := RX7) (T := TX7) (N := 11) hx hb hts hiX7 tyX7 tyX7_ok nmX7 hown hin z 0 rfl rfl 7 (by decide) (show Cond.fieldLink RX7 15 "GainTrees$Split" "counts" "[I" ∈ wsX7_init by decide +kernel) rfl rfl rfl rfl rfl (Nat.le_of_ble_eq_true rfl) dX7_init_17 (fun H locs z => ?_)
  have z : zw D [(h0, .inr (7, [.int 0, .int 0, .int 0, .int 0, .int 0, .int 0, .ref q_1, .ref q_3, .long 0, .long 0, .long 0])), (q_1, .inl (cA_2, 8, .inl (fun _ => 0))), (q_3, .inl (cA_4, 48, .inl (fun _ => 0)))] [(cA_2, .int), (cA_4, .int)] A s.heap s H locs := z
  exact z_vret hx hb hr hlocks z (fun t h => ⟨q_1, q_3, h.sub [0] [] (by decide) rfl rfl⟩) (Nat.le_of_ble_eq_true rfl) (Nat.le_of_ble_eq_true rfl) dX7_init_20

set_option maxHeartbeats 4000000 in
set_option maxRecDepth 100000 in
/-- Product() -/
theorem c_X3_init (l : Launch) (D : va_G) (sz : Nat) (h0 : Nat) : Met l yX3_init wsX3_init ({ frames := 1, cells := 1, slots := 900, locals := 20 }) (va_Pc [.ref h0] (zI D [(h0, .inr (3, [.null, .int 0]))] [] sz)) (va_Qv (fun (_ : Unit) => True) (fun _ t => zB D (va_A [(h0, .inr (3, [.null, .int 0]))] sz) [] [] t) (va_A [(h0, .inr (3, [.null, .int 0]))] sz)) 1 900 (va_A [(h0, .inr (3, [.null, .int 0]))] sz) := by
  refine Met.ofW (cc := cX3_init) (maxL := 1) (ret := none) (by decide) rfl ?_
  intro p e s m args below meth c s₁ B hml hv
  obtain ⟨rfl, hv⟩ := hv
  have hx := B.exec
  have hb := B.bytes
  have hr := B.returns
  have hts := atoms_spec (ws := wsX3_init) B.pre
  have hown : s.vm.findClass RX3 = some m.cls := findClass_of_methodNamed B.named
  have hlocks := B.notSynchronized
  have hiX3 : ∀ w ∈ u_ws RX3 TX3 2, w ∈ wsX3_init := (fun _ h => List.mem_cons_of_mem _ (List.mem_append_right _ h))
  have hin : meth.name = "<init>" := (name_of_methodNamed B.named B.method).1
  obtain ⟨hsz, z⟩ := hv.start
  clear hv
  subst hsz
  generalize va_A [(h0, .inr (3, [.null, .int 0]))] s.heap.size = A at z ⊢
  have hl := lv_entry ([.ref h0]) (n := 1) (Nat.le_of_ble_eq_true rfl)
  rw [lg_entry_eq]
  generalize (lg_sl ([.ref h0]) ++ List.replicate (1 - (lg_sl ([.ref h0])).length) Slot.unset).toArray = ls at hl ⊢
  have hl : lv_has ls 1 [(0, .ref h0)] := hl
  refine z_begin z (fun H locs z => ?_)
  refine lv_aload_n hx hb dX3_init_0 rfl (lv_at hl 0 rfl) ?_
  refine W.objInit hx hb hown (hts (.methodLink RX3 3 objectInit) (by decide +kernel)) (hts (.instanceMethod objectInit) (by decide +kernel)) (hts (.code objectInit ⟨#[0xb1]⟩ 1 none) (by decide +kernel)) rfl (by rw [hml]; exact hl.1) rfl dX3_init_1 (Nat.le_of_ble_eq_true rfl) (Nat.le_of_ble_eq_true rfl) ?_
  refine W.eq (g2 := F0 m 4 ls []) rfl ?_
  refine lv_aload_n hx hb dX3_init_4 rfl (lv_at hl 0 rfl) ?_
  refine lv_sipush (v := 900) hx hb dX3_init_5 (by decide) ?_
  refine z_newa (atype := .int) (ty := .int) (a0 := (900, .inl (fun _ => 0))) hx hb hts (show Cond.arrayClass .int ∈ wsX3_init by decide +kernel) rfl z (fun _ => rfl) (by decide) (by decide) (by decide) (cells' := 1) (slots' := 900) (Nat.le_of_ble_eq_true rfl) (Nat.le_of_ble_eq_true rfl) rfl rfl dX3_init_8 (fun q_1 cA_2 H z => ?_)
  have z : zw D [(h0, .inr (3, [.null, .int 0])), (q_1, .inl (cA_2, 900, .inl (fun _ => 0)))] [(cA_2, .int)] A s.heap s H locs := z
  refine z_putF (v := .ref q_1) (C := RX3) (T := TX3) (N := 2) hx hb hts hiX3 tyX3 tyX3_ok nmX3 hown hin z 0 rfl rfl 0 (by decide) (show Cond.fieldLink RX3 9 "GainTrees$Product" "limbs" "[I" ∈ wsX3_init by decide +kernel) rfl rfl rfl rfl rfl (Nat.le_of_ble_eq_true rfl) dX3_init_10 (fun H locs z => ?_)
  have z : zw D [(h0, .inr (3, [.ref q_1, .int 0])), (q_1, .inl (cA_2, 900, .inl (fun _ => 0)))] [(cA_2, .int)] A s.heap s H locs := z
  exact z_vret hx hb hr hlocks z (fun t h => h.sub [] [] (by decide) rfl rfl) (Nat.le_of_ble_eq_true rfl) (Nat.le_of_ble_eq_true rfl) dX3_init_13

set_option maxHeartbeats 4000000 in
set_option maxRecDepth 100000 in
/-- Tree() -/
theorem c_X9_init (l : Launch) (D : va_G) (sz : Nat) (gw : Nat) : Met l yX9_init wsX9_init ({ frames := 1, cells := 13, slots := 28800, locals := 20 }) (va_Pc [.ref gw] (zI D [(gw, .inr (9, [.null, .null, .null, .null, .null, .null, .null, .null, .null, .null, .null, .null, .null, .int 0]))] [] sz)) (va_Qv (fun (_ : Unit) => True) (fun _ t => ∃ gw_0 : Nat, ∃ gw_1 : Nat, ∃ gw_2 : Nat, ∃ gw_3 : Nat, ∃ gw_4 : Nat, ∃ gw_5 : Nat, ∃ gw_6 : Nat, ∃ gw_7 : Nat, ∃ gw_8 : Nat, ∃ gw_9 : Nat, ∃ gw_10 : Nat, ∃ gw_11 : Nat, ∃ gw_12 : Nat, zB D (va_A [(gw, .inr (9, [.null, .null, .null, .null, .null, .null, .null, .null, .null, .null, .null, .null, .null, .int 0]))] sz) [(gw, .inr (9, [.ref gw_0, .ref gw_1, .ref gw_2, .ref gw_3, .ref gw_4, .ref gw_5, .ref gw_6, .ref gw_7, .ref gw_8, .ref gw_9, .ref gw_10, .ref gw_11, .ref gw_12, .int 0]))] [] t) (va_A [(gw, .inr (9, [.null, .null, .null, .null, .null, .null, .null, .null, .null, .null, .null, .null, .null, .int 0]))] sz)) 13 28800 (va_A [(gw, .inr (9, [.null, .null, .null, .null, .null, .null, .null, .null, .null, .null, .null, .null, .null, .int 0]))] sz) := by
  refine Met.ofW (cc := cX9_init) (maxL := 1) (ret := none) (by decide) rfl ?_
  intro p e s m args below meth c s₁ B hml hv
  obtain ⟨rfl, hv⟩ := hv
  have hx := B.exec
  have hb := B.bytes
  have hr := B.returns
  have hts := atoms_spec (ws := wsX9_init) B.pre
  have hown : s.vm.findClass RX9 = some m.cls := findClass_of_methodNamed B.named
  have hlocks := B.notSynchronized
  have hiX9 : ∀ w ∈ u_ws RX9 TX9 14, w ∈ wsX9_init := (fun _ h => List.mem_cons_of_mem _ (List.mem_append_right _ h))
  have hin : meth.name = "<init>" := (name_of_methodNamed B.named B.method).1
  obtain ⟨hsz, z⟩ := hv.start
  clear hv
  subst hsz
  generalize va_A [(gw, .inr (9, [.null, .null, .null, .null, .null, .null, .null, .null, .null, .null, .null, .null, .null, .int 0]))] s.heap.size = A at z ⊢
  have hl := lv_entry ([.ref gw]) (n := 1) (Nat.le_of_ble_eq_true rfl)
  rw [lg_entry_eq]
  generalize (lg_sl ([.ref gw]) ++ List.replicate (1 - (lg_sl ([.ref gw])).length) Slot.unset).toArray = ls at hl ⊢
  have hl : lv_has ls 1 [(0, .ref gw)] := hl
  refine z_begin z (fun H locs z => ?_)
  refine lv_aload_n hx hb dX9_init_0 rfl (lv_at hl 0 rfl) ?_
  refine W.objInit hx hb hown (hts (.methodLink RX9 3 objectInit) (by decide +kernel)) (hts (.instanceMethod objectInit) (by decide +kernel)) (hts (.code objectInit ⟨#[0xb1]⟩ 1 none) (by decide +kernel)) rfl (by rw [hml]; exact hl.1) rfl dX9_init_1 (Nat.le_of_ble_eq_true rfl) (Nat.le_of_ble_eq_true rfl) ?_
  refine W.eq (g2 := F0 m 4 ls []) rfl ?_
  refine lv_aload_n hx hb dX9_init_4 rfl (lv_at hl 0 rfl) ?_
  refine lv_sipush (v := 1600) hx hb dX9_init_5 (by decide) ?_
  refine z_newa (atype := .int) (ty := .int) (a0 := (1600, .inl (fun _ => 0))) hx hb hts (show Cond.arrayClass .int ∈ wsX9_init by decide +kernel) rfl z (fun _ => rfl) (by decide) (by decide) (by decide) (cells' := 1) (slots' := 1600) (Nat.le_of_ble_eq_true rfl) (Nat.le_of_ble_eq_true rfl) rfl rfl dX9_init_8 (fun q_1 cA_2 H z => ?_)
  have z : zw D [(gw, .inr (9, [.null, .null, .null, .null, .null, .null, .null, .null, .null, .null, .null, .null, .null, .int 0])), (q_1, .inl (cA_2, 1600, .inl (fun _ => 0)))] [(cA_2, .int)] A s.heap s H locs := z
  refine z_putF (v := .ref q_1) (C := RX9) (T := TX9) (N := 14) hx hb hts hiX9 tyX9 tyX9_ok nmX9 hown hin z 0 rfl rfl 0 (by decide) (show Cond.fieldLink RX9 9 "GainTrees$Tree" "attribute" "[I" ∈ wsX9_init by decide +kernel) rfl rfl rfl rfl rfl (Nat.le_of_ble_eq_true rfl) dX9_init_10 (fun H locs z => ?_)
  have z : zw D [(gw, .inr (9, [.ref q_1, .null, .null, .null, .null, .null, .null, .null, .null, .null, .null, .null, .null, .int 0])), (q_1, .inl (cA_2, 1600, .inl (fun _ => 0)))] [(cA_2, .int)] A s.heap s H locs := z
  refine lv_aload_n hx hb dX9_init_13 rfl (lv_at hl 0 rfl) ?_
  refine lv_sipush (v := 1600) hx hb dX9_init_14 (by decide) ?_
  refine z_newa (atype := .int) (ty := .int) (a0 := (1600, .inl (fun _ => 0))) hx hb hts (show Cond.arrayClass .int ∈ wsX9_init by decide +kernel) rfl z (fun _ => rfl) (by decide) (by decide) (by decide) (cells' := 2) (slots' := 3200) (Nat.le_of_ble_eq_true rfl) (Nat.le_of_ble_eq_true rfl) rfl rfl dX9_init_17 (fun q_3 cA_4 H z => ?_)
  have z : zw D [(gw, .inr (9, [.ref q_1, .null, .null, .null, .null, .null, .null, .null, .null, .null, .null, .null, .null, .int 0])), (q_1, .inl (cA_2, 1600, .inl (fun _ => 0))), (q_3, .inl (cA_4, 1600, .inl (fun _ => 0)))] [(cA_2, .int), (cA_4, .int)] A s.heap s H locs := z
  refine z_putF (v := .ref q_3) (C := RX9) (T := TX9) (N := 14) hx hb hts hiX9 tyX9 tyX9_ok nmX9 hown hin z 0 rfl rfl 1 (by decide) (show Cond.fieldLink RX9 15 "GainTrees$Tree" "cut" "[I" ∈ wsX9_init by decide +kernel) rfl rfl rfl rfl rfl (Nat.le_of_ble_eq_true rfl) dX9_init_19 (fun H locs z => ?_)
  have z : zw D [(gw, .inr (9, [.ref q_1, .ref q_3, .null, .null, .null, .null, .null, .null, .null, .null, .null, .null, .null, .int 0])), (q_1, .inl (cA_2, 1600, .inl (fun _ => 0))), (q_3, .inl (cA_4, 1600, .inl (fun _ => 0)))] [(cA_2, .int), (cA_4, .int)] A s.heap s H locs := z
  refine lv_aload_n hx hb dX9_init_22 rfl (lv_at hl 0 rfl) ?_
  refine lv_sipush (v := 1600) hx hb dX9_init_23 (by decide) ?_
  refine z_newa (atype := .boolean) (ty := .boolean) (a0 := (1600, .inl (fun _ => 0))) hx hb hts (show Cond.arrayClass .boolean ∈ wsX9_init by decide +kernel) rfl z (fun _ => rfl) (by decide) (by decide) (by decide) (cells' := 3) (slots' := 4800) (Nat.le_of_ble_eq_true rfl) (Nat.le_of_ble_eq_true rfl) rfl rfl dX9_init_26 (fun q_5 cA_6 H z => ?_)
  have z : zw D [(gw, .inr (9, [.ref q_1, .ref q_3, .null, .null, .null, .null, .null, .null, .null, .null, .null, .null, .null, .int 0])), (q_1, .inl (cA_2, 1600, .inl (fun _ => 0))), (q_3, .inl (cA_4, 1600, .inl (fun _ => 0))), (q_5, .inl (cA_6, 1600, .inl (fun _ => 0)))] [(cA_2, .int), (cA_4, .int), (cA_6, .boolean)] A s.heap s H locs := z
  refine z_putF (v := .ref q_5) (C := RX9) (T := TX9) (N := 14) hx hb hts hiX9 tyX9 tyX9_ok nmX9 hown hin z 0 rfl rfl 2 (by decide) (show Cond.fieldLink RX9 18 "GainTrees$Tree" "byCut" "[Z" ∈ wsX9_init by decide +kernel) rfl rfl rfl rfl rfl (Nat.le_of_ble_eq_true rfl) dX9_init_28 (fun H locs z => ?_)
  have z : zw D [(gw, .inr (9, [.ref q_1, .ref q_3, .ref q_5, .null, .null, .null, .null, .null, .null, .null, .null, .null, .null, .int 0])), (q_1, .inl (cA_2, 1600, .inl (fun _ => 0))), (q_3, .inl (cA_4, 1600, .inl (fun _ => 0))), (q_5, .inl (cA_6, 1600, .inl (fun _ => 0)))] [(cA_2, .int), (cA_4, .int), (cA_6, .boolean)] A s.heap s H locs := z
  refine lv_aload_n hx hb dX9_init_31 rfl (lv_at hl 0 rfl) ?_
  refine lv_sipush (v := 1600) hx hb dX9_init_32 (by decide) ?_
  refine z_newa (atype := .int) (ty := .int) (a0 := (1600, .inl (fun _ => 0))) hx hb hts (show Cond.arrayClass .int ∈ wsX9_init by decide +kernel) rfl z (fun _ => rfl) (by decide) (by decide) (by decide) (cells' := 4) (slots' := 6400) (Nat.le_of_ble_eq_true rfl) (Nat.le_of_ble_eq_true rfl) rfl rfl dX9_init_35 (fun q_7 cA_8 H z => ?_)
  have z : zw D [(gw, .inr (9, [.ref q_1, .ref q_3, .ref q_5, .null, .null, .null, .null, .null, .null, .null, .null, .null, .null, .int 0])), (q_1, .inl (cA_2, 1600, .inl (fun _ => 0))), (q_3, .inl (cA_4, 1600, .inl (fun _ => 0))), (q_5, .inl (cA_6, 1600, .inl (fun _ => 0))), (q_7, .inl (cA_8, 1600, .inl (fun _ => 0)))] [(cA_2, .int), (cA_4, .int), (cA_6, .boolean), (cA_8, .int)] A s.heap s H locs := z
  refine z_putF (v := .ref q_7) (C := RX9) (T := TX9) (N := 14) hx hb hts hiX9 tyX9 tyX9_ok nmX9 hown hin z 0 rfl rfl 3 (by decide) (show Cond.fieldLink RX9 22 "GainTrees$Tree" "result" "[I" ∈ wsX9_init by decide +kernel) rfl rfl rfl rfl rfl (Nat.le_of_ble_eq_true rfl) dX9_init_37 (fun H locs z => ?_)
  have z : zw D [(gw, .inr (9, [.ref q_1, .ref q_3, .ref q_5, .ref q_7, .null, .null, .null, .null, .null, .null, .null, .null, .null, .int 0])), (q_1, .inl (cA_2, 1600, .inl (fun _ => 0))), (q_3, .inl (cA_4, 1600, .inl (fun _ => 0))), (q_5, .inl (cA_6, 1600, .inl (fun _ => 0))), (q_7, .inl (cA_8, 1600, .inl (fun _ => 0)))] [(cA_2, .int), (cA_4, .int), (cA_6, .boolean), (cA_8, .int)] A s.heap s H locs := z
  refine lv_aload_n hx hb dX9_init_40 rfl (lv_at hl 0 rfl) ?_
  refine lv_sipush (v := 1600) hx hb dX9_init_41 (by decide) ?_
  refine z_newa (atype := .int) (ty := .int) (a0 := (1600, .inl (fun _ => 0))) hx hb hts (show Cond.arrayClass .int ∈ wsX9_init by decide +kernel) rfl z (fun _ => rfl) (by decide) (by decide) (by decide) (cells' := 5) (slots' := 8000) (Nat.le_of_ble_eq_true rfl) (Nat.le_of_ble_eq_true rfl) rfl rfl dX9_init_44 (fun q_9 cA_10 H z => ?_)
  have z : zw D [(gw, .inr (9, [.ref q_1, .ref q_3, .ref q_5, .ref q_7, .null, .null, .null, .null, .null, .null, .null, .null, .null, .int 0])), (q_1, .inl (cA_2, 1600, .inl (fun _ => 0))), (q_3, .inl (cA_4, 1600, .inl (fun _ => 0))), (q_5, .inl (cA_6, 1600, .inl (fun _ => 0))), (q_7, .inl (cA_8, 1600, .inl (fun _ => 0))), (q_9, .inl (cA_10, 1600, .inl (fun _ => 0)))] [(cA_2, .int), (cA_4, .int), (cA_6, .boolean), (cA_8, .int), (cA_10, .int)] A s.heap s H locs := z
  refine z_putF (v := .ref q_9) (C := RX9) (T := TX9) (N := 14) hx hb hts hiX9 tyX9 tyX9_ok nmX9 hown hin z 0 rfl rfl 4 (by decide) (show Cond.fieldLink RX9 25 "GainTrees$Tree" "amount" "[I" ∈ wsX9_init by decide +kernel) rfl rfl rfl rfl rfl (Nat.le_of_ble_eq_true rfl) dX9_init_46 (fun H locs z => ?_)
  have z : zw D [(gw, .inr (9, [.ref q_1, .ref q_3, .ref q_5, .ref q_7, .ref q_9, .null, .null, .null, .null, .null, .null, .null, .null, .int 0])), (q_1, .inl (cA_2, 1600, .inl (fun _ => 0))), (q_3, .inl (cA_4, 1600, .inl (fun _ => 0))), (q_5, .inl (cA_6, 1600, .inl (fun _ => 0))), (q_7, .inl (cA_8, 1600, .inl (fun _ => 0))), (q_9, .inl (cA_10, 1600, .inl (fun _ => 0)))] [(cA_2, .int), (cA_4, .int), (cA_6, .boolean), (cA_8, .int), (cA_10, .int)] A s.heap s H locs := z
  refine lv_aload_n hx hb dX9_init_49 rfl (lv_at hl 0 rfl) ?_
  refine lv_sipush (v := 1600) hx hb dX9_init_50 (by decide) ?_
  refine z_newa (atype := .int) (ty := .int) (a0 := (1600, .inl (fun _ => 0))) hx hb hts (show Cond.arrayClass .int ∈ wsX9_init by decide +kernel) rfl z (fun _ => rfl) (by decide) (by decide) (by decide) (cells' := 6) (slots' := 9600) (Nat.le_of_ble_eq_true rfl) (Nat.le_of_ble_eq_true rfl) rfl rfl dX9_init_53 (fun q_11 cA_12 H z => ?_)
  have z : zw D [(gw, .inr (9, [.ref q_1, .ref q_3, .ref q_5, .ref q_7, .ref q_9, .null, .null, .null, .null, .null, .null, .null, .null, .int 0])), (q_1, .inl (cA_2, 1600, .inl (fun _ => 0))), (q_3, .inl (cA_4, 1600, .inl (fun _ => 0))), (q_5, .inl (cA_6, 1600, .inl (fun _ => 0))), (q_7, .inl (cA_8, 1600, .inl (fun _ => 0))), (q_9, .inl (cA_10, 1600, .inl (fun _ => 0))), (q_11, .inl (cA_12, 1600, .inl (fun _ => 0)))] [(cA_2, .int), (cA_4, .int), (cA_6, .boolean), (cA_8, .int), (cA_10, .int), (cA_12, .int)] A s.heap s H locs := z
  refine z_putF (v := .ref q_11) (C := RX9) (T := TX9) (N := 14) hx hb hts hiX9 tyX9 tyX9_ok nmX9 hown hin z 0 rfl rfl 5 (by decide) (show Cond.fieldLink RX9 28 "GainTrees$Tree" "kids" "[I" ∈ wsX9_init by decide +kernel) rfl rfl rfl rfl rfl (Nat.le_of_ble_eq_true rfl) dX9_init_55 (fun H locs z => ?_)
  have z : zw D [(gw, .inr (9, [.ref q_1, .ref q_3, .ref q_5, .ref q_7, .ref q_9, .ref q_11, .null, .null, .null, .null, .null, .null, .null, .int 0])), (q_1, .inl (cA_2, 1600, .inl (fun _ => 0))), (q_3, .inl (cA_4, 1600, .inl (fun _ => 0))), (q_5, .inl (cA_6, 1600, .inl (fun _ => 0))), (q_7, .inl (cA_8, 1600, .inl (fun _ => 0))), (q_9, .inl (cA_10, 1600, .inl (fun _ => 0))), (q_11, .inl (cA_12, 1600, .inl (fun _ => 0)))] [(cA_2, .int), (cA_4, .int), (cA_6, .boolean), (cA_8, .int), (cA_10, .int), (cA_12, .int)] A s.heap s H locs := z
  refine lv_aload_n hx hb dX9_init_58 rfl (lv_at hl 0 rfl) ?_
  refine lv_sipush (v := 1600) hx hb dX9_init_59 (by decide) ?_
  refine z_newa (atype := .int) (ty := .int) (a0 := (1600, .inl (fun _ => 0))) hx hb hts (show Cond.arrayClass .int ∈ wsX9_init by decide +kernel) rfl z (fun _ => rfl) (by decide) (by decide) (by decide) (cells' := 7) (slots' := 11200) (Nat.le_of_ble_eq_true rfl) (Nat.le_of_ble_eq_true rfl) rfl rfl dX9_init_62 (fun q_13 cA_14 H z => ?_)
  have z : zw D [(gw, .inr (9, [.ref q_1, .ref q_3, .ref q_5, .ref q_7, .ref q_9, .ref q_11, .null, .null, .null, .null, .null, .null, .null, .int 0])), (q_1, .inl (cA_2, 1600, .inl (fun _ => 0))), (q_3, .inl (cA_4, 1600, .inl (fun _ => 0))), (q_5, .inl (cA_6, 1600, .inl (fun _ => 0))), (q_7, .inl (cA_8, 1600, .inl (fun _ => 0))), (q_9, .inl (cA_10, 1600, .inl (fun _ => 0))), (q_11, .inl (cA_12, 1600, .inl (fun _ => 0))), (q_13, .inl (cA_14, 1600, .inl (fun _ => 0)))] [(cA_2, .int), (cA_4, .int), (cA_6, .boolean), (cA_8, .int), (cA_10, .int), (cA_12, .int), (cA_14, .int)] A s.heap s H locs := z
  refine z_putF (v := .ref q_13) (C := RX9) (T := TX9) (N := 14) hx hb hts hiX9 tyX9 tyX9_ok nmX9 hown hin z 0 rfl rfl 6 (by decide) (show Cond.fieldLink RX9 31 "GainTrees$Tree" "depth" "[I" ∈ wsX9_init by decide +kernel) rfl rfl rfl rfl rfl (Nat.le_of_ble_eq_true rfl) dX9_init_64 (fun H locs z => ?_)
  have z : zw D [(gw, .inr (9, [.ref q_1, .ref q_3, .ref q_5, .ref q_7, .ref q_9, .ref q_11, .ref q_13, .null, .null, .null, .null, .null, .null, .int 0])), (q_1, .inl (cA_2, 1600, .inl (fun _ => 0))), (q_3, .inl (cA_4, 1600, .inl (fun _ => 0))), (q_5, .inl (cA_6, 1600, .inl (fun _ => 0))), (q_7, .inl (cA_8, 1600, .inl (fun _ => 0))), (q_9, .inl (cA_10, 1600, .inl (fun _ => 0))), (q_11, .inl (cA_12, 1600, .inl (fun _ => 0))), (q_13, .inl (cA_14, 1600, .inl (fun _ => 0)))] [(cA_2, .int), (cA_4, .int), (cA_6, .boolean), (cA_8, .int), (cA_10, .int), (cA_12, .int), (cA_14, .int)] A s.heap s H locs := z
  refine lv_aload_n hx hb dX9_init_67 rfl (lv_at hl 0 rfl) ?_
  refine lv_sipush (v := 1600) hx hb dX9_init_68 (by decide) ?_
  refine z_newa (atype := .int) (ty := .int) (a0 := (1600, .inl (fun _ => 0))) hx hb hts (show Cond.arrayClass .int ∈ wsX9_init by decide +kernel) rfl z (fun _ => rfl) (by decide) (by decide) (by decide) (cells' := 8) (slots' := 12800) (Nat.le_of_ble_eq_true rfl) (Nat.le_of_ble_eq_true rfl) rfl rfl dX9_init_71 (fun q_15 cA_16 H z => ?_)
  have z : zw D [(gw, .inr (9, [.ref q_1, .ref q_3, .ref q_5, .ref q_7, .ref q_9, .ref q_11, .ref q_13, .null, .null, .null, .null, .null, .null, .int 0])), (q_1, .inl (cA_2, 1600, .inl (fun _ => 0))), (q_3, .inl (cA_4, 1600, .inl (fun _ => 0))), (q_5, .inl (cA_6, 1600, .inl (fun _ => 0))), (q_7, .inl (cA_8, 1600, .inl (fun _ => 0))), (q_9, .inl (cA_10, 1600, .inl (fun _ => 0))), (q_11, .inl (cA_12, 1600, .inl (fun _ => 0))), (q_13, .inl (cA_14, 1600, .inl (fun _ => 0))), (q_15, .inl (cA_16, 1600, .inl (fun _ => 0)))] [(cA_2, .int), (cA_4, .int), (cA_6, .boolean), (cA_8, .int), (cA_10, .int), (cA_12, .int), (cA_14, .int), (cA_16, .int)] A s.heap s H locs := z
  refine z_putF (v := .ref q_15) (C := RX9) (T := TX9) (N := 14) hx hb hts hiX9 tyX9 tyX9_ok nmX9 hown hin z 0 rfl rfl 7 (by decide) (show Cond.fieldLink RX9 34 "GainTrees$Tree" "parent" "[I" ∈ wsX9_init by decide +kernel) rfl rfl rfl rfl rfl (Nat.le_of_ble_eq_true rfl) dX9_init_73 (fun H locs z => ?_)
  have z : zw D [(gw, .inr (9, [.ref q_1, .ref q_3, .ref q_5, .ref q_7, .ref q_9, .ref q_11, .ref q_13, .ref q_15, .null, .null, .null, .null, .null, .int 0])), (q_1, .inl (cA_2, 1600, .inl (fun _ => 0))), (q_3, .inl (cA_4, 1600, .inl (fun _ => 0))), (q_5, .inl (cA_6, 1600, .inl (fun _ => 0))), (q_7, .inl (cA_8, 1600, .inl (fun _ => 0))), (q_9, .inl (cA_10, 1600, .inl (fun _ => 0))), (q_11, .inl (cA_12, 1600, .inl (fun _ => 0))), (q_13, .inl (cA_14, 1600, .inl (fun _ => 0))), (q_15, .inl (cA_16, 1600, .inl (fun _ => 0)))] [(cA_2, .int), (cA_4, .int), (cA_6, .boolean), (cA_8, .int), (cA_10, .int), (cA_12, .int), (cA_14, .int), (cA_16, .int)] A s.heap s H locs := z
  refine lv_aload_n hx hb dX9_init_76 rfl (lv_at hl 0 rfl) ?_
  refine lv_sipush (v := 1600) hx hb dX9_init_77 (by decide) ?_
  refine z_newa (atype := .int) (ty := .int) (a0 := (1600, .inl (fun _ => 0))) hx hb hts (show Cond.arrayClass .int ∈ wsX9_init by decide +kernel) rfl z (fun _ => rfl) (by decide) (by decide) (by decide) (cells' := 9) (slots' := 14400) (Nat.le_of_ble_eq_true rfl) (Nat.le_of_ble_eq_true rfl) rfl rfl dX9_init_80 (fun q_17 cA_18 H z => ?_)
  have z : zw D [(gw, .inr (9, [.ref q_1, .ref q_3, .ref q_5, .ref q_7, .ref q_9, .ref q_11, .ref q_13, .ref q_15, .null, .null, .null, .null, .null, .int 0])), (q_1, .inl (cA_2, 1600, .inl (fun _ => 0))), (q_3, .inl (cA_4, 1600, .inl (fun _ => 0))), (q_5, .inl (cA_6, 1600, .inl (fun _ => 0))), (q_7, .inl (cA_8, 1600, .inl (fun _ => 0))), (q_9, .inl (cA_10, 1600, .inl (fun _ => 0))), (q_11, .inl (cA_12, 1600, .inl (fun _ => 0))), (q_13, .inl (cA_14, 1600, .inl (fun _ => 0))), (q_15, .inl (cA_16, 1600, .inl (fun _ => 0))), (q_17, .inl (cA_18, 1600, .inl (fun _ => 0)))] [(cA_2, .int), (cA_4, .int), (cA_6, .boolean), (cA_8, .int), (cA_10, .int), (cA_12, .int), (cA_14, .int), (cA_16, .int), (cA_18, .int)] A s.heap s H locs := z
  refine z_putF (v := .ref q_17) (C := RX9) (T := TX9) (N := 14) hx hb hts hiX9 tyX9 tyX9_ok nmX9 hown hin z 0 rfl rfl 8 (by decide) (show Cond.fieldLink RX9 37 "GainTrees$Tree" "place" "[I" ∈ wsX9_init by decide +kernel) rfl rfl rfl rfl rfl (Nat.le_of_ble_eq_true rfl) dX9_init_82 (fun H locs z => ?_)
  have z : zw D [(gw, .inr (9, [.ref q_1, .ref q_3, .ref q_5, .ref q_7, .ref q_9, .ref q_11, .ref q_13, .ref q_15, .ref q_17, .null, .null, .null, .null, .int 0])), (q_1, .inl (cA_2, 1600, .inl (fun _ => 0))), (q_3, .inl (cA_4, 1600, .inl (fun _ => 0))), (q_5, .inl (cA_6, 1600, .inl (fun _ => 0))), (q_7, .inl (cA_8, 1600, .inl (fun _ => 0))), (q_9, .inl (cA_10, 1600, .inl (fun _ => 0))), (q_11, .inl (cA_12, 1600, .inl (fun _ => 0))), (q_13, .inl (cA_14, 1600, .inl (fun _ => 0))), (q_15, .inl (cA_16, 1600, .inl (fun _ => 0))), (q_17, .inl (cA_18, 1600, .inl (fun _ => 0)))] [(cA_2, .int), (cA_4, .int), (cA_6, .boolean), (cA_8, .int), (cA_10, .int), (cA_12, .int), (cA_14, .int), (cA_16, .int), (cA_18, .int)] A s.heap s H locs := z
  refine lv_aload_n hx hb dX9_init_85 rfl (lv_at hl 0 rfl) ?_
  refine lv_sipush (v := 9600) hx hb dX9_init_86 (by decide) ?_
  refine z_newa (atype := .int) (ty := .int) (a0 := (9600, .inl (fun _ => 0))) hx hb hts (show Cond.arrayClass .int ∈ wsX9_init by decide +kernel) rfl z (fun _ => rfl) (by decide) (by decide) (by decide) (cells' := 10) (slots' := 24000) (Nat.le_of_ble_eq_true rfl) (Nat.le_of_ble_eq_true rfl) rfl rfl dX9_init_89 (fun q_19 cA_20 H z => ?_)
  have z : zw D [(gw, .inr (9, [.ref q_1, .ref q_3, .ref q_5, .ref q_7, .ref q_9, .ref q_11, .ref q_13, .ref q_15, .ref q_17, .null, .null, .null, .null, .int 0])), (q_1, .inl (cA_2, 1600, .inl (fun _ => 0))), (q_3, .inl (cA_4, 1600, .inl (fun _ => 0))), (q_5, .inl (cA_6, 1600, .inl (fun _ => 0))), (q_7, .inl (cA_8, 1600, .inl (fun _ => 0))), (q_9, .inl (cA_10, 1600, .inl (fun _ => 0))), (q_11, .inl (cA_12, 1600, .inl (fun _ => 0))), (q_13, .inl (cA_14, 1600, .inl (fun _ => 0))), (q_15, .inl (cA_16, 1600, .inl (fun _ => 0))), (q_17, .inl (cA_18, 1600, .inl (fun _ => 0))), (q_19, .inl (cA_20, 9600, .inl (fun _ => 0)))] [(cA_2, .int), (cA_4, .int), (cA_6, .boolean), (cA_8, .int), (cA_10, .int), (cA_12, .int), (cA_14, .int), (cA_16, .int), (cA_18, .int), (cA_20, .int)] A s.heap s H locs := z
  refine z_putF (v := .ref q_19) (C := RX9) (T := TX9) (N := 14) hx hb hts hiX9 tyX9 tyX9_ok nmX9 hown hin z 0 rfl rfl 9 (by decide) (show Cond.fieldLink RX9 40 "GainTrees$Tree" "counts" "[I" ∈ wsX9_init by decide +kernel) rfl rfl rfl rfl rfl (Nat.le_of_ble_eq_true rfl) dX9_init_91 (fun H locs z => ?_)
  have z : zw D [(gw, .inr (9, [.ref q_1, .ref q_3, .ref q_5, .ref q_7, .ref q_9, .ref q_11, .ref q_13, .ref q_15, .ref q_17, .ref q_19, .null, .null, .null, .int 0])), (q_1, .inl (cA_2, 1600, .inl (fun _ => 0))), (q_3, .inl (cA_4, 1600, .inl (fun _ => 0))), (q_5, .inl (cA_6, 1600, .inl (fun _ => 0))), (q_7, .inl (cA_8, 1600, .inl (fun _ => 0))), (q_9, .inl (cA_10, 1600, .inl (fun _ => 0))), (q_11, .inl (cA_12, 1600, .inl (fun _ => 0))), (q_13, .inl (cA_14, 1600, .inl (fun _ => 0))), (q_15, .inl (cA_16, 1600, .inl (fun _ => 0))), (q_17, .inl (cA_18, 1600, .inl (fun _ => 0))), (q_19, .inl (cA_20, 9600, .inl (fun _ => 0)))] [(cA_2, .int), (cA_4, .int), (cA_6, .boolean), (cA_8, .int), (cA_10, .int), (cA_12, .int), (cA_14, .int), (cA_16, .int), (cA_18, .int), (cA_20, .int)] A s.heap s H locs := z
  refine lv_aload_n hx hb dX9_init_94 rfl (lv_at hl 0 rfl) ?_
  refine lv_sipush (v := 1600) hx hb dX9_init_95 (by decide) ?_
  refine z_newa (atype := .int) (ty := .int) (a0 := (1600, .inl (fun _ => 0))) hx hb hts (show Cond.arrayClass .int ∈ wsX9_init by decide +kernel) rfl z (fun _ => rfl) (by decide) (by decide) (by decide) (cells' := 11) (slots' := 25600) (Nat.le_of_ble_eq_true rfl) (Nat.le_of_ble_eq_true rfl) rfl rfl dX9_init_98 (fun q_21 cA_22 H z => ?_)
  have z : zw D [(gw, .inr (9, [.ref q_1, .ref q_3, .ref q_5, .ref q_7, .ref q_9, .ref q_11, .ref q_13, .ref q_15, .ref q_17, .ref q_19, .null, .null, .null, .int 0])), (q_1, .inl (cA_2, 1600, .inl (fun _ => 0))), (q_3, .inl (cA_4, 1600, .inl (fun _ => 0))), (q_5, .inl (cA_6, 1600, .inl (fun _ => 0))), (q_7, .inl (cA_8, 1600, .inl (fun _ => 0))), (q_9, .inl (cA_10, 1600, .inl (fun _ => 0))), (q_11, .inl (cA_12, 1600, .inl (fun _ => 0))), (q_13, .inl (cA_14, 1600, .inl (fun _ => 0))), (q_15, .inl (cA_16, 1600, .inl (fun _ => 0))), (q_17, .inl (cA_18, 1600, .inl (fun _ => 0))), (q_19, .inl (cA_20, 9600, .inl (fun _ => 0))), (q_21, .inl (cA_22, 1600, .inl (fun _ => 0)))] [(cA_2, .int), (cA_4, .int), (cA_6, .boolean), (cA_8, .int), (cA_10, .int), (cA_12, .int), (cA_14, .int), (cA_16, .int), (cA_18, .int), (cA_20, .int), (cA_22, .int)] A s.heap s H locs := z
  refine z_putF (v := .ref q_21) (C := RX9) (T := TX9) (N := 14) hx hb hts hiX9 tyX9 tyX9_ok nmX9 hown hin z 0 rfl rfl 10 (by decide) (show Cond.fieldLink RX9 43 "GainTrees$Tree" "after" "[I" ∈ wsX9_init by decide +kernel) rfl rfl rfl rfl rfl (Nat.le_of_ble_eq_true rfl) dX9_init_100 (fun H locs z => ?_)
  have z : zw D [(gw, .inr (9, [.ref q_1, .ref q_3, .ref q_5, .ref q_7, .ref q_9, .ref q_11, .ref q_13, .ref q_15, .ref q_17, .ref q_19, .ref q_21, .null, .null, .int 0])), (q_1, .inl (cA_2, 1600, .inl (fun _ => 0))), (q_3, .inl (cA_4, 1600, .inl (fun _ => 0))), (q_5, .inl (cA_6, 1600, .inl (fun _ => 0))), (q_7, .inl (cA_8, 1600, .inl (fun _ => 0))), (q_9, .inl (cA_10, 1600, .inl (fun _ => 0))), (q_11, .inl (cA_12, 1600, .inl (fun _ => 0))), (q_13, .inl (cA_14, 1600, .inl (fun _ => 0))), (q_15, .inl (cA_16, 1600, .inl (fun _ => 0))), (q_17, .inl (cA_18, 1600, .inl (fun _ => 0))), (q_19, .inl (cA_20, 9600, .inl (fun _ => 0))), (q_21, .inl (cA_22, 1600, .inl (fun _ => 0)))] [(cA_2, .int), (cA_4, .int), (cA_6, .boolean), (cA_8, .int), (cA_10, .int), (cA_12, .int), (cA_14, .int), (cA_16, .int), (cA_18, .int), (cA_20, .int), (cA_22, .int)] A s.heap s H locs := z
  refine lv_aload_n hx hb dX9_init_103 rfl (lv_at hl 0 rfl) ?_
  refine lv_sipush (v := 1600) hx hb dX9_init_104 (by decide) ?_
  refine z_newa (atype := .int) (ty := .int) (a0 := (1600, .inl (fun _ => 0))) hx hb hts (show Cond.arrayClass .int ∈ wsX9_init by decide +kernel) rfl z (fun _ => rfl) (by decide) (by decide) (by decide) (cells' := 12) (slots' := 27200) (Nat.le_of_ble_eq_true rfl) (Nat.le_of_ble_eq_true rfl) rfl rfl dX9_init_107 (fun q_23 cA_24 H z => ?_)
  have z : zw D [(gw, .inr (9, [.ref q_1, .ref q_3, .ref q_5, .ref q_7, .ref q_9, .ref q_11, .ref q_13, .ref q_15, .ref q_17, .ref q_19, .ref q_21, .null, .null, .int 0])), (q_1, .inl (cA_2, 1600, .inl (fun _ => 0))), (q_3, .inl (cA_4, 1600, .inl (fun _ => 0))), (q_5, .inl (cA_6, 1600, .inl (fun _ => 0))), (q_7, .inl (cA_8, 1600, .inl (fun _ => 0))), (q_9, .inl (cA_10, 1600, .inl (fun _ => 0))), (q_11, .inl (cA_12, 1600, .inl (fun _ => 0))), (q_13, .inl (cA_14, 1600, .inl (fun _ => 0))), (q_15, .inl (cA_16, 1600, .inl (fun _ => 0))), (q_17, .inl (cA_18, 1600, .inl (fun _ => 0))), (q_19, .inl (cA_20, 9600, .inl (fun _ => 0))), (q_21, .inl (cA_22, 1600, .inl (fun _ => 0))), (q_23, .inl (cA_24, 1600, .inl (fun _ => 0)))] [(cA_2, .int), (cA_4, .int), (cA_6, .boolean), (cA_8, .int), (cA_10, .int), (cA_12, .int), (cA_14, .int), (cA_16, .int), (cA_18, .int), (cA_20, .int), (cA_22, .int), (cA_24, .int)] A s.heap s H locs := z
  refine z_putF (v := .ref q_23) (C := RX9) (T := TX9) (N := 14) hx hb hts hiX9 tyX9 tyX9_ok nmX9 hown hin z 0 rfl rfl 11 (by decide) (show Cond.fieldLink RX9 46 "GainTrees$Tree" "wrongHere" "[I" ∈ wsX9_init by decide +kernel) rfl rfl rfl rfl rfl (Nat.le_of_ble_eq_true rfl) dX9_init_109 (fun H locs z => ?_)
  have z : zw D [(gw, .inr (9, [.ref q_1, .ref q_3, .ref q_5, .ref q_7, .ref q_9, .ref q_11, .ref q_13, .ref q_15, .ref q_17, .ref q_19, .ref q_21, .ref q_23, .null, .int 0])), (q_1, .inl (cA_2, 1600, .inl (fun _ => 0))), (q_3, .inl (cA_4, 1600, .inl (fun _ => 0))), (q_5, .inl (cA_6, 1600, .inl (fun _ => 0))), (q_7, .inl (cA_8, 1600, .inl (fun _ => 0))), (q_9, .inl (cA_10, 1600, .inl (fun _ => 0))), (q_11, .inl (cA_12, 1600, .inl (fun _ => 0))), (q_13, .inl (cA_14, 1600, .inl (fun _ => 0))), (q_15, .inl (cA_16, 1600, .inl (fun _ => 0))), (q_17, .inl (cA_18, 1600, .inl (fun _ => 0))), (q_19, .inl (cA_20, 9600, .inl (fun _ => 0))), (q_21, .inl (cA_22, 1600, .inl (fun _ => 0))), (q_23, .inl (cA_24, 1600, .inl (fun _ => 0)))] [(cA_2, .int), (cA_4, .int), (cA_6, .boolean), (cA_8, .int), (cA_10, .int), (cA_12, .int), (cA_14, .int), (cA_16, .int), (cA_18, .int), (cA_20, .int), (cA_22, .int), (cA_24, .int)] A s.heap s H locs := z
  refine lv_aload_n hx hb dX9_init_112 rfl (lv_at hl 0 rfl) ?_
  refine lv_sipush (v := 1600) hx hb dX9_init_113 (by decide) ?_
  refine z_newa (atype := .int) (ty := .int) (a0 := (1600, .inl (fun _ => 0))) hx hb hts (show Cond.arrayClass .int ∈ wsX9_init by decide +kernel) rfl z (fun _ => rfl) (by decide) (by decide) (by decide) (cells' := 13) (slots' := 28800) (Nat.le_of_ble_eq_true rfl) (Nat.le_of_ble_eq_true rfl) rfl rfl dX9_init_116 (fun q_25 cA_26 H z => ?_)
  have z : zw D [(gw, .inr (9, [.ref q_1, .ref q_3, .ref q_5, .ref q_7, .ref q_9, .ref q_11, .ref q_13, .ref q_15, .ref q_17, .ref q_19, .ref q_21, .ref q_23, .null, .int 0])), (q_1, .inl (cA_2, 1600, .inl (fun _ => 0))), (q_3, .inl (cA_4, 1600, .inl (fun _ => 0))), (q_5, .inl (cA_6, 1600, .inl (fun _ => 0))), (q_7, .inl (cA_8, 1600, .inl (fun _ => 0))), (q_9, .inl (cA_10, 1600, .inl (fun _ => 0))), (q_11, .inl (cA_12, 1600, .inl (fun _ => 0))), (q_13, .inl (cA_14, 1600, .inl (fun _ => 0))), (q_15, .inl (cA_16, 1600, .inl (fun _ => 0))), (q_17, .inl (cA_18, 1600, .inl (fun _ => 0))), (q_19, .inl (cA_20, 9600, .inl (fun _ => 0))), (q_21, .inl (cA_22, 1600, .inl (fun _ => 0))), (q_23, .inl (cA_24, 1600, .inl (fun _ => 0))), (q_25, .inl (cA_26, 1600, .inl (fun _ => 0)))] [(cA_2, .int), (cA_4, .int), (cA_6, .boolean), (cA_8, .int), (cA_10, .int), (cA_12, .int), (cA_14, .int), (cA_16, .int), (cA_18, .int), (cA_20, .int), (cA_22, .int), (cA_24, .int), (cA_26, .int)] A s.heap s H locs := z
  refine z_putF (v := .ref q_25) (C := RX9) (T := TX9) (N := 14) hx hb hts hiX9 tyX9 tyX9_ok nmX9 hown hin z 0 rfl rfl 12 (by decide) (show Cond.fieldLink RX9 49 "GainTrees$Tree" "wrongBelow" "[I" ∈ wsX9_init by decide +kernel) rfl rfl rfl rfl rfl (Nat.le_of_ble_eq_true rfl) dX9_init_118 (fun H locs z => ?_)
  have z : zw D [(gw, .inr (9, [.ref q_1, .ref q_3, .ref q_5, .ref q_7, .ref q_9, .ref q_11, .ref q_13, .ref q_15, .ref q_17, .ref q_19, .ref q_21, .ref q_23, .ref q_25, .int 0])), (q_1, .inl (cA_2, 1600, .inl (fun _ => 0))), (q_3, .inl (cA_4, 1600, .inl (fun _ => 0))), (q_5, .inl (cA_6, 1600, .inl (fun _ => 0))), (q_7, .inl (cA_8, 1600, .inl (fun _ => 0))), (q_9, .inl (cA_10, 1600, .inl (fun _ => 0))), (q_11, .inl (cA_12, 1600, .inl (fun _ => 0))), (q_13, .inl (cA_14, 1600, .inl (fun _ => 0))), (q_15, .inl (cA_16, 1600, .inl (fun _ => 0))), (q_17, .inl (cA_18, 1600, .inl (fun _ => 0))), (q_19, .inl (cA_20, 9600, .inl (fun _ => 0))), (q_21, .inl (cA_22, 1600, .inl (fun _ => 0))), (q_23, .inl (cA_24, 1600, .inl (fun _ => 0))), (q_25, .inl (cA_26, 1600, .inl (fun _ => 0)))] [(cA_2, .int), (cA_4, .int), (cA_6, .boolean), (cA_8, .int), (cA_10, .int), (cA_12, .int), (cA_14, .int), (cA_16, .int), (cA_18, .int), (cA_20, .int), (cA_22, .int), (cA_24, .int), (cA_26, .int)] A s.heap s H locs := z
  exact z_vret hx hb hr hlocks z (fun t h => ⟨q_1, q_3, q_5, q_7, q_9, q_11, q_13, q_15, q_17, q_19, q_21, q_23, q_25, h.sub [0] [] (by decide) rfl rfl⟩) (Nat.le_of_ble_eq_true rfl) (Nat.le_of_ble_eq_true rfl) dX9_init_121

set_option maxHeartbeats 4000000 in
set_option maxRecDepth 100000 in
/-- Rules() -/
theorem c_X5_init (l : Launch) (D : va_G) (sz : Nat) (md : Nat) : Met l yX5_init wsX5_init ({ frames := 1, cells := 15, slots := 39380, locals := 20 }) (va_Pc [.ref md] (zI D [(md, .inr (5, [.null, .null, .null, .null, .null, .null, .null, .null, .null, .null, .null, .null, .null, .null, .null, .int 0, .int 0, .int 0]))] [] sz)) (va_Qv (fun (_ : Unit) => True) (fun _ t => ∃ md_0 : Nat, ∃ md_1 : Nat, ∃ md_2 : Nat, ∃ md_3 : Nat, ∃ md_4 : Nat, ∃ md_5 : Nat, ∃ md_6 : Nat, ∃ md_7 : Nat, ∃ md_8 : Nat, ∃ md_9 : Nat, ∃ md_10 : Nat, ∃ md_11 : Nat, ∃ md_12 : Nat, ∃ md_13 : Nat, ∃ md_14 : Nat, zB D (va_A [(md, .inr (5, [.null, .null, .null, .null, .null, .null, .null, .null, .null, .null, .null, .null, .null, .null, .null, .int 0, .int 0, .int 0]))] sz) [(md, .inr (5, [.ref md_0, .ref md_1, .ref md_2, .ref md_3, .ref md_4, .ref md_5, .ref md_6, .ref md_7, .ref md_8, .ref md_9, .ref md_10, .ref md_11, .ref md_12, .ref md_13, .ref md_14, .int 0, .int 0, .int 0]))] [] t) (va_A [(md, .inr (5, [.null, .null, .null, .null, .null, .null, .null, .null, .null, .null, .null, .null, .null, .null, .null, .int 0, .int 0, .int 0]))] sz)) 15 39380 (va_A [(md, .inr (5, [.null, .null, .null, .null, .null, .null, .null, .null, .null, .null, .null, .null, .null, .null, .null, .int 0, .int 0, .int 0]))] sz) := by
  refine Met.ofW (cc := cX5_init) (maxL := 1) (ret := none) (by decide) rfl ?_
  intro p e s m args below meth c s₁ B hml hv
  obtain ⟨rfl, hv⟩ := hv
  have hx := B.exec
  have hb := B.bytes
  have hr := B.returns
  have hts := atoms_spec (ws := wsX5_init) B.pre
  have hown : s.vm.findClass RX5 = some m.cls := findClass_of_methodNamed B.named
  have hlocks := B.notSynchronized
  have hiX5 : ∀ w ∈ u_ws RX5 TX5 18, w ∈ wsX5_init := (fun _ h => List.mem_cons_of_mem _ (List.mem_append_right _ h))
  have hin : meth.name = "<init>" := (name_of_methodNamed B.named B.method).1
  obtain ⟨hsz, z⟩ := hv.start
  clear hv
  subst hsz
  generalize va_A [(md, .inr (5, [.null, .null, .null, .null, .null, .null, .null, .null, .null, .null, .null, .null, .null, .null, .null, .int 0, .int 0, .int 0]))] s.heap.size = A at z ⊢
  have hl := lv_entry ([.ref md]) (n := 1) (Nat.le_of_ble_eq_true rfl)
  rw [lg_entry_eq]
  generalize (lg_sl ([.ref md]) ++ List.replicate (1 - (lg_sl ([.ref md])).length) Slot.unset).toArray = ls at hl ⊢
  have hl : lv_has ls 1 [(0, .ref md)] := hl
  refine z_begin z (fun H locs z => ?_)
  refine lv_aload_n hx hb dX5_init_0 rfl (lv_at hl 0 rfl) ?_
  refine W.objInit hx hb hown (hts (.methodLink RX5 3 objectInit) (by decide +kernel)) (hts (.instanceMethod objectInit) (by decide +kernel)) (hts (.code objectInit ⟨#[0xb1]⟩ 1 none) (by decide +kernel)) rfl (by rw [hml]; exact hl.1) rfl dX5_init_1 (Nat.le_of_ble_eq_true rfl) (Nat.le_of_ble_eq_true rfl) ?_
  refine W.eq (g2 := F0 m 4 ls []) rfl ?_
  refine lv_aload_n hx hb dX5_init_4 rfl (lv_at hl 0 rfl) ?_
  refine lv_sipush (v := 12000) hx hb dX5_init_5 (by decide) ?_
  refine z_newa (atype := .int) (ty := .int) (a0 := (12000, .inl (fun _ => 0))) hx hb hts (show Cond.arrayClass .int ∈ wsX5_init by decide +kernel) rfl z (fun _ => rfl) (by decide) (by decide) (by decide) (cells' := 1) (slots' := 12000) (Nat.le_of_ble_eq_true rfl) (Nat.le_of_ble_eq_true rfl) rfl rfl dX5_init_8 (fun q_1 cA_2 H z => ?_)
  have z : zw D [(md, .inr (5, [.null, .null, .null, .null, .null, .null, .null, .null, .null, .null, .null, .null, .null, .null, .null, .int 0, .int 0, .int 0])), (q_1, .inl (cA_2, 12000, .inl (fun _ => 0)))] [(cA_2, .int)] A s.heap s H locs := z
  refine z_putF (v := .ref q_1) (C := RX5) (T := TX5) (N := 18) hx hb hts hiX5 tyX5 tyX5_ok nmX5 hown hin z 0 rfl rfl 0 (by decide) (show Cond.fieldLink RX5 11 "GainTrees$Rules" "attribute" "[I" ∈ wsX5_init by decide +kernel) rfl rfl rfl rfl rfl (Nat.le_of_ble_eq_true rfl) dX5_init_10 (fun H locs z => ?_)
  have z : zw D [(md, .inr (5, [.ref q_1, .null, .null, .null, .null, .null, .null, .null, .null, .null, .null, .null, .null, .null, .null, .int 0, .int 0, .int 0])), (q_1, .inl (cA_2, 12000, .inl (fun _ => 0)))] [(cA_2, .int)] A s.heap s H locs := z
  refine lv_aload_n hx hb dX5_init_13 rfl (lv_at hl 0 rfl) ?_
  refine lv_sipush (v := 12000) hx hb dX5_init_14 (by decide) ?_
  refine z_newa (atype := .int) (ty := .int) (a0 := (12000, .inl (fun _ => 0))) hx hb hts (show Cond.arrayClass .int ∈ wsX5_init by decide +kernel) rfl z (fun _ => rfl) (by decide) (by decide) (by decide) (cells' := 2) (slots' := 24000) (Nat.le_of_ble_eq_true rfl) (Nat.le_of_ble_eq_true rfl) rfl rfl dX5_init_17 (fun q_3 cA_4 H z => ?_)
  have z : zw D [(md, .inr (5, [.ref q_1, .null, .null, .null, .null, .null, .null, .null, .null, .null, .null, .null, .null, .null, .null, .int 0, .int 0, .int 0])), (q_1, .inl (cA_2, 12000, .inl (fun _ => 0))), (q_3, .inl (cA_4, 12000, .inl (fun _ => 0)))] [(cA_2, .int), (cA_4, .int)] A s.heap s H locs := z
  refine z_putF (v := .ref q_3) (C := RX5) (T := TX5) (N := 18) hx hb hts hiX5 tyX5 tyX5_ok nmX5 hown hin z 0 rfl rfl 1 (by decide) (show Cond.fieldLink RX5 15 "GainTrees$Rules" "sort" "[I" ∈ wsX5_init by decide +kernel) rfl rfl rfl rfl rfl (Nat.le_of_ble_eq_true rfl) dX5_init_19 (fun H locs z => ?_)
  have z : zw D [(md, .inr (5, [.ref q_1, .ref q_3, .null, .null, .null, .null, .null, .null, .null, .null, .null, .null, .null, .null, .null, .int 0, .int 0, .int 0])), (q_1, .inl (cA_2, 12000, .inl (fun _ => 0))), (q_3, .inl (cA_4, 12000, .inl (fun _ => 0)))] [(cA_2, .int), (cA_4, .int)] A s.heap s H locs := z
  refine lv_aload_n hx hb dX5_init_22 rfl (lv_at hl 0 rfl) ?_
  refine lv_sipush (v := 12000) hx hb dX5_init_23 (by decide) ?_
  refine z_newa (atype := .int) (ty := .int) (a0 := (12000, .inl (fun _ => 0))) hx hb hts (show Cond.arrayClass .int ∈ wsX5_init by decide +kernel) rfl z (fun _ => rfl) (by decide) (by decide) (by decide) (cells' := 3) (slots' := 36000) (Nat.le_of_ble_eq_true rfl) (Nat.le_of_ble_eq_true rfl) rfl rfl dX5_init_26 (fun q_5 cA_6 H z => ?_)
  have z : zw D [(md, .inr (5, [.ref q_1, .ref q_3, .null, .null, .null, .null, .null, .null, .null, .null, .null, .null, .null, .null, .null, .int 0, .int 0, .int 0])), (q_1, .inl (cA_2, 12000, .inl (fun _ => 0))), (q_3, .inl (cA_4, 12000, .inl (fun _ => 0))), (q_5, .inl (cA_6, 12000, .inl (fun _ => 0)))] [(cA_2, .int), (cA_4, .int), (cA_6, .int)] A s.heap s H locs := z
  refine z_putF (v := .ref q_5) (C := RX5) (T := TX5) (N := 18) hx hb hts hiX5 tyX5 tyX5_ok nmX5 hown hin z 0 rfl rfl 2 (by decide) (show Cond.fieldLink RX5 18 "GainTrees$Rules" "bound" "[I" ∈ wsX5_init by decide +kernel) rfl rfl rfl rfl rfl (Nat.le_of_ble_eq_true rfl) dX5_init_28 (fun H locs z => ?_)
  have z : zw D [(md, .inr (5, [.ref q_1, .ref q_3, .ref q_5, .null, .null, .null, .null, .null, .null, .null, .null, .null, .null, .null, .null, .int 0, .int 0, .int 0])), (q_1, .inl (cA_2, 12000, .inl (fun _ => 0))), (q_3, .inl (cA_4, 12000, .inl (fun _ => 0))), (q_5, .inl (cA_6, 12000, .inl (fun _ => 0)))] [(cA_2, .int), (cA_4, .int), (cA_6, .int)] A s.heap s H locs := z
  refine lv_aload_n hx hb dX5_init_31 rfl (lv_at hl 0 rfl) ?_
  refine lv_sipush (v := 200) hx hb dX5_init_32 (by decide) ?_
  refine z_newa (atype := .int) (ty := .int) (a0 := (200, .inl (fun _ => 0))) hx hb hts (show Cond.arrayClass .int ∈ wsX5_init by decide +kernel) rfl z (fun _ => rfl) (by decide) (by decide) (by decide) (cells' := 4) (slots' := 36200) (Nat.le_of_ble_eq_true rfl) (Nat.le_of_ble_eq_true rfl) rfl rfl dX5_init_35 (fun q_7 cA_8 H z => ?_)
  have z : zw D [(md, .inr (5, [.ref q_1, .ref q_3, .ref q_5, .null, .null, .null, .null, .null, .null, .null, .null, .null, .null, .null, .null, .int 0, .int 0, .int 0])), (q_1, .inl (cA_2, 12000, .inl (fun _ => 0))), (q_3, .inl (cA_4, 12000, .inl (fun _ => 0))), (q_5, .inl (cA_6, 12000, .inl (fun _ => 0))), (q_7, .inl (cA_8, 200, .inl (fun _ => 0)))] [(cA_2, .int), (cA_4, .int), (cA_6, .int), (cA_8, .int)] A s.heap s H locs := z
  refine z_putF (v := .ref q_7) (C := RX5) (T := TX5) (N := 18) hx hb hts hiX5 tyX5 tyX5_ok nmX5 hown hin z 0 rfl rfl 3 (by decide) (show Cond.fieldLink RX5 21 "GainTrees$Rules" "start" "[I" ∈ wsX5_init by decide +kernel) rfl rfl rfl rfl rfl (Nat.le_of_ble_eq_true rfl) dX5_init_37 (fun H locs z => ?_)
  have z : zw D [(md, .inr (5, [.ref q_1, .ref q_3, .ref q_5, .ref q_7, .null, .null, .null, .null, .null, .null, .null, .null, .null, .null, .null, .int 0, .int 0, .int 0])), (q_1, .inl (cA_2, 12000, .inl (fun _ => 0))), (q_3, .inl (cA_4, 12000, .inl (fun _ => 0))), (q_5, .inl (cA_6, 12000, .inl (fun _ => 0))), (q_7, .inl (cA_8, 200, .inl (fun _ => 0)))] [(cA_2, .int), (cA_4, .int), (cA_6, .int), (cA_8, .int)] A s.heap s H locs := z
  refine lv_aload_n hx hb dX5_init_40 rfl (lv_at hl 0 rfl) ?_
  refine lv_sipush (v := 200) hx hb dX5_init_41 (by decide) ?_
  refine z_newa (atype := .int) (ty := .int) (a0 := (200, .inl (fun _ => 0))) hx hb hts (show Cond.arrayClass .int ∈ wsX5_init by decide +kernel) rfl z (fun _ => rfl) (by decide) (by decide) (by decide) (cells' := 5) (slots' := 36400) (Nat.le_of_ble_eq_true rfl) (Nat.le_of_ble_eq_true rfl) rfl rfl dX5_init_44 (fun q_9 cA_10 H z => ?_)
  have z : zw D [(md, .inr (5, [.ref q_1, .ref q_3, .ref q_5, .ref q_7, .null, .null, .null, .null, .null, .null, .null, .null, .null, .null, .null, .int 0, .int 0, .int 0])), (q_1, .inl (cA_2, 12000, .inl (fun _ => 0))), (q_3, .inl (cA_4, 12000, .inl (fun _ => 0))), (q_5, .inl (cA_6, 12000, .inl (fun _ => 0))), (q_7, .inl (cA_8, 200, .inl (fun _ => 0))), (q_9, .inl (cA_10, 200, .inl (fun _ => 0)))] [(cA_2, .int), (cA_4, .int), (cA_6, .int), (cA_8, .int), (cA_10, .int)] A s.heap s H locs := z
  refine z_putF (v := .ref q_9) (C := RX5) (T := TX5) (N := 18) hx hb hts hiX5 tyX5 tyX5_ok nmX5 hown hin z 0 rfl rfl 4 (by decide) (show Cond.fieldLink RX5 24 "GainTrees$Rules" "size" "[I" ∈ wsX5_init by decide +kernel) rfl rfl rfl rfl rfl (Nat.le_of_ble_eq_true rfl) dX5_init_46 (fun H locs z => ?_)
  have z : zw D [(md, .inr (5, [.ref q_1, .ref q_3, .ref q_5, .ref q_7, .ref q_9, .null, .null, .null, .null, .null, .null, .null, .null, .null, .null, .int 0, .int 0, .int 0])), (q_1, .inl (cA_2, 12000, .inl (fun _ => 0))), (q_3, .inl (cA_4, 12000, .inl (fun _ => 0))), (q_5, .inl (cA_6, 12000, .inl (fun _ => 0))), (q_7, .inl (cA_8, 200, .inl (fun _ => 0))), (q_9, .inl (cA_10, 200, .inl (fun _ => 0)))] [(cA_2, .int), (cA_4, .int), (cA_6, .int), (cA_8, .int), (cA_10, .int)] A s.heap s H locs := z
  refine lv_aload_n hx hb dX5_init_49 rfl (lv_at hl 0 rfl) ?_
  refine lv_sipush (v := 200) hx hb dX5_init_50 (by decide) ?_
  refine z_newa (atype := .int) (ty := .int) (a0 := (200, .inl (fun _ => 0))) hx hb hts (show Cond.arrayClass .int ∈ wsX5_init by decide +kernel) rfl z (fun _ => rfl) (by decide) (by decide) (by decide) (cells' := 6) (slots' := 36600) (Nat.le_of_ble_eq_true rfl) (Nat.le_of_ble_eq_true rfl) rfl rfl dX5_init_53 (fun q_11 cA_12 H z => ?_)
  have z : zw D [(md, .inr (5, [.ref q_1, .ref q_3, .ref q_5, .ref q_7, .ref q_9, .null, .null, .null, .null, .null, .null, .null, .null, .null, .null, .int 0, .int 0, .int 0])), (q_1, .inl (cA_2, 12000, .inl (fun _ => 0))), (q_3, .inl (cA_4, 12000, .inl (fun _ => 0))), (q_5, .inl (cA_6, 12000, .inl (fun _ => 0))), (q_7, .inl (cA_8, 200, .inl (fun _ => 0))), (q_9, .inl (cA_10, 200, .inl (fun _ => 0))), (q_11, .inl (cA_12, 200, .inl (fun _ => 0)))] [(cA_2, .int), (cA_4, .int), (cA_6, .int), (cA_8, .int), (cA_10, .int), (cA_12, .int)] A s.heap s H locs := z
  refine z_putF (v := .ref q_11) (C := RX5) (T := TX5) (N := 18) hx hb hts hiX5 tyX5 tyX5_ok nmX5 hown hin z 0 rfl rfl 5 (by decide) (show Cond.fieldLink RX5 27 "GainTrees$Rules" "ranked" "[I" ∈ wsX5_init by decide +kernel) rfl rfl rfl rfl rfl (Nat.le_of_ble_eq_true rfl) dX5_init_55 (fun H locs z => ?_)
  have z : zw D [(md, .inr (5, [.ref q_1, .ref q_3, .ref q_5, .ref q_7, .ref q_9, .ref q_11, .null, .null, .null, .null, .null, .null, .null, .null, .null, .int 0, .int 0, .int 0])), (q_1, .inl (cA_2, 12000, .inl (fun _ => 0))), (q_3, .inl (cA_4, 12000, .inl (fun _ => 0))), (q_5, .inl (cA_6, 12000, .inl (fun _ => 0))), (q_7, .inl (cA_8, 200, .inl (fun _ => 0))), (q_9, .inl (cA_10, 200, .inl (fun _ => 0))), (q_11, .inl (cA_12, 200, .inl (fun _ => 0)))] [(cA_2, .int), (cA_4, .int), (cA_6, .int), (cA_8, .int), (cA_10, .int), (cA_12, .int)] A s.heap s H locs := z
  refine lv_aload_n hx hb dX5_init_58 rfl (lv_at hl 0 rfl) ?_
  refine lv_sipush (v := 200) hx hb dX5_init_59 (by decide) ?_
  refine z_newa (atype := .int) (ty := .int) (a0 := (200, .inl (fun _ => 0))) hx hb hts (show Cond.arrayClass .int ∈ wsX5_init by decide +kernel) rfl z (fun _ => rfl) (by decide) (by decide) (by decide) (cells' := 7) (slots' := 36800) (Nat.le_of_ble_eq_true rfl) (Nat.le_of_ble_eq_true rfl) rfl rfl dX5_init_62 (fun q_13 cA_14 H z => ?_)
  have z : zw D [(md, .inr (5, [.ref q_1, .ref q_3, .ref q_5, .ref q_7, .ref q_9, .ref q_11, .null, .null, .null, .null, .null, .null, .null, .null, .null, .int 0, .int 0, .int 0])), (q_1, .inl (cA_2, 12000, .inl (fun _ => 0))), (q_3, .inl (cA_4, 12000, .inl (fun _ => 0))), (q_5, .inl (cA_6, 12000, .inl (fun _ => 0))), (q_7, .inl (cA_8, 200, .inl (fun _ => 0))), (q_9, .inl (cA_10, 200, .inl (fun _ => 0))), (q_11, .inl (cA_12, 200, .inl (fun _ => 0))), (q_13, .inl (cA_14, 200, .inl (fun _ => 0)))] [(cA_2, .int), (cA_4, .int), (cA_6, .int), (cA_8, .int), (cA_10, .int), (cA_12, .int), (cA_14, .int)] A s.heap s H locs := z
  refine z_putF (v := .ref q_13) (C := RX5) (T := TX5) (N := 18) hx hb hts hiX5 tyX5 tyX5_ok nmX5 hown hin z 0 rfl rfl 6 (by decide) (show Cond.fieldLink RX5 30 "GainTrees$Rules" "result" "[I" ∈ wsX5_init by decide +kernel) rfl rfl rfl rfl rfl (Nat.le_of_ble_eq_true rfl) dX5_init_64 (fun H locs z => ?_)
  have z : zw D [(md, .inr (5, [.ref q_1, .ref q_3, .ref q_5, .ref q_7, .ref q_9, .ref q_11, .ref q_13, .null, .null, .null, .null, .null, .null, .null, .null, .int 0, .int 0, .int 0])), (q_1, .inl (cA_2, 12000, .inl (fun _ => 0))), (q_3, .inl (cA_4, 12000, .inl (fun _ => 0))), (q_5, .inl (cA_6, 12000, .inl (fun _ => 0))), (q_7, .inl (cA_8, 200, .inl (fun _ => 0))), (q_9, .inl (cA_10, 200, .inl (fun _ => 0))), (q_11, .inl (cA_12, 200, .inl (fun _ => 0))), (q_13, .inl (cA_14, 200, .inl (fun _ => 0)))] [(cA_2, .int), (cA_4, .int), (cA_6, .int), (cA_8, .int), (cA_10, .int), (cA_12, .int), (cA_14, .int)] A s.heap s H locs := z
  refine lv_aload_n hx hb dX5_init_67 rfl (lv_at hl 0 rfl) ?_
  refine lv_sipush (v := 200) hx hb dX5_init_68 (by decide) ?_
  refine z_newa (atype := .int) (ty := .int) (a0 := (200, .inl (fun _ => 0))) hx hb hts (show Cond.arrayClass .int ∈ wsX5_init by decide +kernel) rfl z (fun _ => rfl) (by decide) (by decide) (by decide) (cells' := 8) (slots' := 37000) (Nat.le_of_ble_eq_true rfl) (Nat.le_of_ble_eq_true rfl) rfl rfl dX5_init_71 (fun q_15 cA_16 H z => ?_)
  have z : zw D [(md, .inr (5, [.ref q_1, .ref q_3, .ref q_5, .ref q_7, .ref q_9, .ref q_11, .ref q_13, .null, .null, .null, .null, .null, .null, .null, .null, .int 0, .int 0, .int 0])), (q_1, .inl (cA_2, 12000, .inl (fun _ => 0))), (q_3, .inl (cA_4, 12000, .inl (fun _ => 0))), (q_5, .inl (cA_6, 12000, .inl (fun _ => 0))), (q_7, .inl (cA_8, 200, .inl (fun _ => 0))), (q_9, .inl (cA_10, 200, .inl (fun _ => 0))), (q_11, .inl (cA_12, 200, .inl (fun _ => 0))), (q_13, .inl (cA_14, 200, .inl (fun _ => 0))), (q_15, .inl (cA_16, 200, .inl (fun _ => 0)))] [(cA_2, .int), (cA_4, .int), (cA_6, .int), (cA_8, .int), (cA_10, .int), (cA_12, .int), (cA_14, .int), (cA_16, .int)] A s.heap s H locs := z
  refine z_putF (v := .ref q_15) (C := RX5) (T := TX5) (N := 18) hx hb hts hiX5 tyX5 tyX5_ok nmX5 hown hin z 0 rfl rfl 7 (by decide) (show Cond.fieldLink RX5 33 "GainTrees$Rules" "covered" "[I" ∈ wsX5_init by decide +kernel) rfl rfl rfl rfl rfl (Nat.le_of_ble_eq_true rfl) dX5_init_73 (fun H locs z => ?_)
  have z : zw D [(md, .inr (5, [.ref q_1, .ref q_3, .ref q_5, .ref q_7, .ref q_9, .ref q_11, .ref q_13, .ref q_15, .null, .null, .null, .null, .null, .null, .null, .int 0, .int 0, .int 0])), (q_1, .inl (cA_2, 12000, .inl (fun _ => 0))), (q_3, .inl (cA_4, 12000, .inl (fun _ => 0))), (q_5, .inl (cA_6, 12000, .inl (fun _ => 0))), (q_7, .inl (cA_8, 200, .inl (fun _ => 0))), (q_9, .inl (cA_10, 200, .inl (fun _ => 0))), (q_11, .inl (cA_12, 200, .inl (fun _ => 0))), (q_13, .inl (cA_14, 200, .inl (fun _ => 0))), (q_15, .inl (cA_16, 200, .inl (fun _ => 0)))] [(cA_2, .int), (cA_4, .int), (cA_6, .int), (cA_8, .int), (cA_10, .int), (cA_12, .int), (cA_14, .int), (cA_16, .int)] A s.heap s H locs := z
  refine lv_aload_n hx hb dX5_init_76 rfl (lv_at hl 0 rfl) ?_
  refine lv_sipush (v := 200) hx hb dX5_init_77 (by decide) ?_
  refine z_newa (atype := .int) (ty := .int) (a0 := (200, .inl (fun _ => 0))) hx hb hts (show Cond.arrayClass .int ∈ wsX5_init by decide +kernel) rfl z (fun _ => rfl) (by decide) (by decide) (by decide) (cells' := 9) (slots' := 37200) (Nat.le_of_ble_eq_true rfl) (Nat.le_of_ble_eq_true rfl) rfl rfl dX5_init_80 (fun q_17 cA_18 H z => ?_)
  have z : zw D [(md, .inr (5, [.ref q_1, .ref q_3, .ref q_5, .ref q_7, .ref q_9, .ref q_11, .ref q_13, .ref q_15, .null, .null, .null, .null, .null, .null, .null, .int 0, .int 0, .int 0])), (q_1, .inl (cA_2, 12000, .inl (fun _ => 0))), (q_3, .inl (cA_4, 12000, .inl (fun _ => 0))), (q_5, .inl (cA_6, 12000, .inl (fun _ => 0))), (q_7, .inl (cA_8, 200, .inl (fun _ => 0))), (q_9, .inl (cA_10, 200, .inl (fun _ => 0))), (q_11, .inl (cA_12, 200, .inl (fun _ => 0))), (q_13, .inl (cA_14, 200, .inl (fun _ => 0))), (q_15, .inl (cA_16, 200, .inl (fun _ => 0))), (q_17, .inl (cA_18, 200, .inl (fun _ => 0)))] [(cA_2, .int), (cA_4, .int), (cA_6, .int), (cA_8, .int), (cA_10, .int), (cA_12, .int), (cA_14, .int), (cA_16, .int), (cA_18, .int)] A s.heap s H locs := z
  refine z_putF (v := .ref q_17) (C := RX5) (T := TX5) (N := 18) hx hb hts hiX5 tyX5 tyX5_ok nmX5 hown hin z 0 rfl rfl 8 (by decide) (show Cond.fieldLink RX5 36 "GainTrees$Rules" "right" "[I" ∈ wsX5_init by decide +kernel) rfl rfl rfl rfl rfl (Nat.le_of_ble_eq_true rfl) dX5_init_82 (fun H locs z => ?_)
  have z : zw D [(md, .inr (5, [.ref q_1, .ref q_3, .ref q_5, .ref q_7, .ref q_9, .ref q_11, .ref q_13, .ref q_15, .ref q_17, .null, .null, .null, .null, .null, .null, .int 0, .int 0, .int 0])), (q_1, .inl (cA_2, 12000, .inl (fun _ => 0))), (q_3, .inl (cA_4, 12000, .inl (fun _ => 0))), (q_5, .inl (cA_6, 12000, .inl (fun _ => 0))), (q_7, .inl (cA_8, 200, .inl (fun _ => 0))), (q_9, .inl (cA_10, 200, .inl (fun _ => 0))), (q_11, .inl (cA_12, 200, .inl (fun _ => 0))), (q_13, .inl (cA_14, 200, .inl (fun _ => 0))), (q_15, .inl (cA_16, 200, .inl (fun _ => 0))), (q_17, .inl (cA_18, 200, .inl (fun _ => 0)))] [(cA_2, .int), (cA_4, .int), (cA_6, .int), (cA_8, .int), (cA_10, .int), (cA_12, .int), (cA_14, .int), (cA_16, .int), (cA_18, .int)] A s.heap s H locs := z
  refine lv_aload_n hx hb dX5_init_85 rfl (lv_at hl 0 rfl) ?_
  refine lv_sipush (v := 200) hx hb dX5_init_86 (by decide) ?_
  refine z_newa (atype := .int) (ty := .int) (a0 := (200, .inl (fun _ => 0))) hx hb hts (show Cond.arrayClass .int ∈ wsX5_init by decide +kernel) rfl z (fun _ => rfl) (by decide) (by decide) (by decide) (cells' := 10) (slots' := 37400) (Nat.le_of_ble_eq_true rfl) (Nat.le_of_ble_eq_true rfl) rfl rfl dX5_init_89 (fun q_19 cA_20 H z => ?_)
  have z : zw D [(md, .inr (5, [.ref q_1, .ref q_3, .ref q_5, .ref q_7, .ref q_9, .ref q_11, .ref q_13, .ref q_15, .ref q_17, .null, .null, .null, .null, .null, .null, .int 0, .int 0, .int 0])), (q_1, .inl (cA_2, 12000, .inl (fun _ => 0))), (q_3, .inl (cA_4, 12000, .inl (fun _ => 0))), (q_5, .inl (cA_6, 12000, .inl (fun _ => 0))), (q_7, .inl (cA_8, 200, .inl (fun _ => 0))), (q_9, .inl (cA_10, 200, .inl (fun _ => 0))), (q_11, .inl (cA_12, 200, .inl (fun _ => 0))), (q_13, .inl (cA_14, 200, .inl (fun _ => 0))), (q_15, .inl (cA_16, 200, .inl (fun _ => 0))), (q_17, .inl (cA_18, 200, .inl (fun _ => 0))), (q_19, .inl (cA_20, 200, .inl (fun _ => 0)))] [(cA_2, .int), (cA_4, .int), (cA_6, .int), (cA_8, .int), (cA_10, .int), (cA_12, .int), (cA_14, .int), (cA_16, .int), (cA_18, .int), (cA_20, .int)] A s.heap s H locs := z
  refine z_putF (v := .ref q_19) (C := RX5) (T := TX5) (N := 18) hx hb hts hiX5 tyX5 tyX5_ok nmX5 hown hin z 0 rfl rfl 9 (by decide) (show Cond.fieldLink RX5 39 "GainTrees$Rules" "misses" "[I" ∈ wsX5_init by decide +kernel) rfl rfl rfl rfl rfl (Nat.le_of_ble_eq_true rfl) dX5_init_91 (fun H locs z => ?_)
  have z : zw D [(md, .inr (5, [.ref q_1, .ref q_3, .ref q_5, .ref q_7, .ref q_9, .ref q_11, .ref q_13, .ref q_15, .ref q_17, .ref q_19, .null, .null, .null, .null, .null, .int 0, .int 0, .int 0])), (q_1, .inl (cA_2, 12000, .inl (fun _ => 0))), (q_3, .inl (cA_4, 12000, .inl (fun _ => 0))), (q_5, .inl (cA_6, 12000, .inl (fun _ => 0))), (q_7, .inl (cA_8, 200, .inl (fun _ => 0))), (q_9, .inl (cA_10, 200, .inl (fun _ => 0))), (q_11, .inl (cA_12, 200, .inl (fun _ => 0))), (q_13, .inl (cA_14, 200, .inl (fun _ => 0))), (q_15, .inl (cA_16, 200, .inl (fun _ => 0))), (q_17, .inl (cA_18, 200, .inl (fun _ => 0))), (q_19, .inl (cA_20, 200, .inl (fun _ => 0)))] [(cA_2, .int), (cA_4, .int), (cA_6, .int), (cA_8, .int), (cA_10, .int), (cA_12, .int), (cA_14, .int), (cA_16, .int), (cA_18, .int), (cA_20, .int)] A s.heap s H locs := z
  refine lv_aload_n hx hb dX5_init_94 rfl (lv_at hl 0 rfl) ?_
  refine lv_sipush (v := 200) hx hb dX5_init_95 (by decide) ?_
  refine z_newa (atype := .int) (ty := .int) (a0 := (200, .inl (fun _ => 0))) hx hb hts (show Cond.arrayClass .int ∈ wsX5_init by decide +kernel) rfl z (fun _ => rfl) (by decide) (by decide) (by decide) (cells' := 11) (slots' := 37600) (Nat.le_of_ble_eq_true rfl) (Nat.le_of_ble_eq_true rfl) rfl rfl dX5_init_98 (fun q_21 cA_22 H z => ?_)
  have z : zw D [(md, .inr (5, [.ref q_1, .ref q_3, .ref q_5, .ref q_7, .ref q_9, .ref q_11, .ref q_13, .ref q_15, .ref q_17, .ref q_19, .null, .null, .null, .null, .null, .int 0, .int 0, .int 0])), (q_1, .inl (cA_2, 12000, .inl (fun _ => 0))), (q_3, .inl (cA_4, 12000, .inl (fun _ => 0))), (q_5, .inl (cA_6, 12000, .inl (fun _ => 0))), (q_7, .inl (cA_8, 200, .inl (fun _ => 0))), (q_9, .inl (cA_10, 200, .inl (fun _ => 0))), (q_11, .inl (cA_12, 200, .inl (fun _ => 0))), (q_13, .inl (cA_14, 200, .inl (fun _ => 0))), (q_15, .inl (cA_16, 200, .inl (fun _ => 0))), (q_17, .inl (cA_18, 200, .inl (fun _ => 0))), (q_19, .inl (cA_20, 200, .inl (fun _ => 0))), (q_21, .inl (cA_22, 200, .inl (fun _ => 0)))] [(cA_2, .int), (cA_4, .int), (cA_6, .int), (cA_8, .int), (cA_10, .int), (cA_12, .int), (cA_14, .int), (cA_16, .int), (cA_18, .int), (cA_20, .int), (cA_22, .int)] A s.heap s H locs := z
  refine z_putF (v := .ref q_21) (C := RX5) (T := TX5) (N := 18) hx hb hts hiX5 tyX5 tyX5_ok nmX5 hown hin z 0 rfl rfl 10 (by decide) (show Cond.fieldLink RX5 42 "GainTrees$Rules" "missed" "[I" ∈ wsX5_init by decide +kernel) rfl rfl rfl rfl rfl (Nat.le_of_ble_eq_true rfl) dX5_init_100 (fun H locs z => ?_)
  have z : zw D [(md, .inr (5, [.ref q_1, .ref q_3, .ref q_5, .ref q_7, .ref q_9, .ref q_11, .ref q_13, .ref q_15, .ref q_17, .ref q_19, .ref q_21, .null, .null, .null, .null, .int 0, .int 0, .int 0])), (q_1, .inl (cA_2, 12000, .inl (fun _ => 0))), (q_3, .inl (cA_4, 12000, .inl (fun _ => 0))), (q_5, .inl (cA_6, 12000, .inl (fun _ => 0))), (q_7, .inl (cA_8, 200, .inl (fun _ => 0))), (q_9, .inl (cA_10, 200, .inl (fun _ => 0))), (q_11, .inl (cA_12, 200, .inl (fun _ => 0))), (q_13, .inl (cA_14, 200, .inl (fun _ => 0))), (q_15, .inl (cA_16, 200, .inl (fun _ => 0))), (q_17, .inl (cA_18, 200, .inl (fun _ => 0))), (q_19, .inl (cA_20, 200, .inl (fun _ => 0))), (q_21, .inl (cA_22, 200, .inl (fun _ => 0)))] [(cA_2, .int), (cA_4, .int), (cA_6, .int), (cA_8, .int), (cA_10, .int), (cA_12, .int), (cA_14, .int), (cA_16, .int), (cA_18, .int), (cA_20, .int), (cA_22, .int)] A s.heap s H locs := z
  refine lv_aload_n hx hb dX5_init_103 rfl (lv_at hl 0 rfl) ?_
  refine lv_bipush (v := 60) hx hb dX5_init_104 (by decide) ?_
  refine z_newa (atype := .int) (ty := .int) (a0 := (60, .inl (fun _ => 0))) hx hb hts (show Cond.arrayClass .int ∈ wsX5_init by decide +kernel) rfl z (fun _ => rfl) (by decide) (by decide) (by decide) (cells' := 12) (slots' := 37660) (Nat.le_of_ble_eq_true rfl) (Nat.le_of_ble_eq_true rfl) rfl rfl dX5_init_106 (fun q_23 cA_24 H z => ?_)
  have z : zw D [(md, .inr (5, [.ref q_1, .ref q_3, .ref q_5, .ref q_7, .ref q_9, .ref q_11, .ref q_13, .ref q_15, .ref q_17, .ref q_19, .ref q_21, .null, .null, .null, .null, .int 0, .int 0, .int 0])), (q_1, .inl (cA_2, 12000, .inl (fun _ => 0))), (q_3, .inl (cA_4, 12000, .inl (fun _ => 0))), (q_5, .inl (cA_6, 12000, .inl (fun _ => 0))), (q_7, .inl (cA_8, 200, .inl (fun _ => 0))), (q_9, .inl (cA_10, 200, .inl (fun _ => 0))), (q_11, .inl (cA_12, 200, .inl (fun _ => 0))), (q_13, .inl (cA_14, 200, .inl (fun _ => 0))), (q_15, .inl (cA_16, 200, .inl (fun _ => 0))), (q_17, .inl (cA_18, 200, .inl (fun _ => 0))), (q_19, .inl (cA_20, 200, .inl (fun _ => 0))), (q_21, .inl (cA_22, 200, .inl (fun _ => 0))), (q_23, .inl (cA_24, 60, .inl (fun _ => 0)))] [(cA_2, .int), (cA_4, .int), (cA_6, .int), (cA_8, .int), (cA_10, .int), (cA_12, .int), (cA_14, .int), (cA_16, .int), (cA_18, .int), (cA_20, .int), (cA_22, .int), (cA_24, .int)] A s.heap s H locs := z
  refine z_putF (v := .ref q_23) (C := RX5) (T := TX5) (N := 18) hx hb hts hiX5 tyX5 tyX5_ok nmX5 hown hin z 0 rfl rfl 11 (by decide) (show Cond.fieldLink RX5 45 "GainTrees$Rules" "coveredWithout" "[I" ∈ wsX5_init by decide +kernel) rfl rfl rfl rfl rfl (Nat.le_of_ble_eq_true rfl) dX5_init_108 (fun H locs z => ?_)
  have z : zw D [(md, .inr (5, [.ref q_1, .ref q_3, .ref q_5, .ref q_7, .ref q_9, .ref q_11, .ref q_13, .ref q_15, .ref q_17, .ref q_19, .ref q_21, .ref q_23, .null, .null, .null, .int 0, .int 0, .int 0])), (q_1, .inl (cA_2, 12000, .inl (fun _ => 0))), (q_3, .inl (cA_4, 12000, .inl (fun _ => 0))), (q_5, .inl (cA_6, 12000, .inl (fun _ => 0))), (q_7, .inl (cA_8, 200, .inl (fun _ => 0))), (q_9, .inl (cA_10, 200, .inl (fun _ => 0))), (q_11, .inl (cA_12, 200, .inl (fun _ => 0))), (q_13, .inl (cA_14, 200, .inl (fun _ => 0))), (q_15, .inl (cA_16, 200, .inl (fun _ => 0))), (q_17, .inl (cA_18, 200, .inl (fun _ => 0))), (q_19, .inl (cA_20, 200, .inl (fun _ => 0))), (q_21, .inl (cA_22, 200, .inl (fun _ => 0))), (q_23, .inl (cA_24, 60, .inl (fun _ => 0)))] [(cA_2, .int), (cA_4, .int), (cA_6, .int), (cA_8, .int), (cA_10, .int), (cA_12, .int), (cA_14, .int), (cA_16, .int), (cA_18, .int), (cA_20, .int), (cA_22, .int), (cA_24, .int)] A s.heap s H locs := z
  refine lv_aload_n hx hb dX5_init_111 rfl (lv_at hl 0 rfl) ?_
  refine lv_bipush (v := 60) hx hb dX5_init_112 (by decide) ?_
  refine z_newa (atype := .int) (ty := .int) (a0 := (60, .inl (fun _ => 0))) hx hb hts (show Cond.arrayClass .int ∈ wsX5_init by decide +kernel) rfl z (fun _ => rfl) (by decide) (by decide) (by decide) (cells' := 13) (slots' := 37720) (Nat.le_of_ble_eq_true rfl) (Nat.le_of_ble_eq_true rfl) rfl rfl dX5_init_114 (fun q_25 cA_26 H z => ?_)
  have z : zw D [(md, .inr (5, [.ref q_1, .ref q_3, .ref q_5, .ref q_7, .ref q_9, .ref q_11, .ref q_13, .ref q_15, .ref q_17, .ref q_19, .ref q_21, .ref q_23, .null, .null, .null, .int 0, .int 0, .int 0])), (q_1, .inl (cA_2, 12000, .inl (fun _ => 0))), (q_3, .inl (cA_4, 12000, .inl (fun _ => 0))), (q_5, .inl (cA_6, 12000, .inl (fun _ => 0))), (q_7, .inl (cA_8, 200, .inl (fun _ => 0))), (q_9, .inl (cA_10, 200, .inl (fun _ => 0))), (q_11, .inl (cA_12, 200, .inl (fun _ => 0))), (q_13, .inl (cA_14, 200, .inl (fun _ => 0))), (q_15, .inl (cA_16, 200, .inl (fun _ => 0))), (q_17, .inl (cA_18, 200, .inl (fun _ => 0))), (q_19, .inl (cA_20, 200, .inl (fun _ => 0))), (q_21, .inl (cA_22, 200, .inl (fun _ => 0))), (q_23, .inl (cA_24, 60, .inl (fun _ => 0))), (q_25, .inl (cA_26, 60, .inl (fun _ => 0)))] [(cA_2, .int), (cA_4, .int), (cA_6, .int), (cA_8, .int), (cA_10, .int), (cA_12, .int), (cA_14, .int), (cA_16, .int), (cA_18, .int), (cA_20, .int), (cA_22, .int), (cA_24, .int), (cA_26, .int)] A s.heap s H locs := z
  refine z_putF (v := .ref q_25) (C := RX5) (T := TX5) (N := 18) hx hb hts hiX5 tyX5 tyX5_ok nmX5 hown hin z 0 rfl rfl 12 (by decide) (show Cond.fieldLink RX5 48 "GainTrees$Rules" "rightWithout" "[I" ∈ wsX5_init by decide +kernel) rfl rfl rfl rfl rfl (Nat.le_of_ble_eq_true rfl) dX5_init_116 (fun H locs z => ?_)
  have z : zw D [(md, .inr (5, [.ref q_1, .ref q_3, .ref q_5, .ref q_7, .ref q_9, .ref q_11, .ref q_13, .ref q_15, .ref q_17, .ref q_19, .ref q_21, .ref q_23, .ref q_25, .null, .null, .int 0, .int 0, .int 0])), (q_1, .inl (cA_2, 12000, .inl (fun _ => 0))), (q_3, .inl (cA_4, 12000, .inl (fun _ => 0))), (q_5, .inl (cA_6, 12000, .inl (fun _ => 0))), (q_7, .inl (cA_8, 200, .inl (fun _ => 0))), (q_9, .inl (cA_10, 200, .inl (fun _ => 0))), (q_11, .inl (cA_12, 200, .inl (fun _ => 0))), (q_13, .inl (cA_14, 200, .inl (fun _ => 0))), (q_15, .inl (cA_16, 200, .inl (fun _ => 0))), (q_17, .inl (cA_18, 200, .inl (fun _ => 0))), (q_19, .inl (cA_20, 200, .inl (fun _ => 0))), (q_21, .inl (cA_22, 200, .inl (fun _ => 0))), (q_23, .inl (cA_24, 60, .inl (fun _ => 0))), (q_25, .inl (cA_26, 60, .inl (fun _ => 0)))] [(cA_2, .int), (cA_4, .int), (cA_6, .int), (cA_8, .int), (cA_10, .int), (cA_12, .int), (cA_14, .int), (cA_16, .int), (cA_18, .int), (cA_20, .int), (cA_22, .int), (cA_24, .int), (cA_26, .int)] A s.heap s H locs := z
  refine lv_aload_n hx hb dX5_init_119 rfl (lv_at hl 0 rfl) ?_
  refine lv_bipush (v := 60) hx hb dX5_init_120 (by decide) ?_
  refine z_newa (atype := .boolean) (ty := .boolean) (a0 := (60, .inl (fun _ => 0))) hx hb hts (show Cond.arrayClass .boolean ∈ wsX5_init by decide +kernel) rfl z (fun _ => rfl) (by decide) (by decide) (by decide) (cells' := 14) (slots' := 37780) (Nat.le_of_ble_eq_true rfl) (Nat.le_of_ble_eq_true rfl) rfl rfl dX5_init_122 (fun q_27 cA_28 H z => ?_)
  have z : zw D [(md, .inr (5, [.ref q_1, .ref q_3, .ref q_5, .ref q_7, .ref q_9, .ref q_11, .ref q_13, .ref q_15, .ref q_17, .ref q_19, .ref q_21, .ref q_23, .ref q_25, .null, .null, .int 0, .int 0, .int 0])), (q_1, .inl (cA_2, 12000, .inl (fun _ => 0))), (q_3, .inl (cA_4, 12000, .inl (fun _ => 0))), (q_5, .inl (cA_6, 12000, .inl (fun _ => 0))), (q_7, .inl (cA_8, 200, .inl (fun _ => 0))), (q_9, .inl (cA_10, 200, .inl (fun _ => 0))), (q_11, .inl (cA_12, 200, .inl (fun _ => 0))), (q_13, .inl (cA_14, 200, .inl (fun _ => 0))), (q_15, .inl (cA_16, 200, .inl (fun _ => 0))), (q_17, .inl (cA_18, 200, .inl (fun _ => 0))), (q_19, .inl (cA_20, 200, .inl (fun _ => 0))), (q_21, .inl (cA_22, 200, .inl (fun _ => 0))), (q_23, .inl (cA_24, 60, .inl (fun _ => 0))), (q_25, .inl (cA_26, 60, .inl (fun _ => 0))), (q_27, .inl (cA_28, 60, .inl (fun _ => 0)))] [(cA_2, .int), (cA_4, .int), (cA_6, .int), (cA_8, .int), (cA_10, .int), (cA_12, .int), (cA_14, .int), (cA_16, .int), (cA_18, .int), (cA_20, .int), (cA_22, .int), (cA_24, .int), (cA_26, .int), (cA_28, .boolean)] A s.heap s H locs := z
  refine z_putF (v := .ref q_27) (C := RX5) (T := TX5) (N := 18) hx hb hts hiX5 tyX5 tyX5_ok nmX5 hown hin z 0 rfl rfl 13 (by decide) (show Cond.fieldLink RX5 51 "GainTrees$Rules" "gone" "[Z" ∈ wsX5_init by decide +kernel) rfl rfl rfl rfl rfl (Nat.le_of_ble_eq_true rfl) dX5_init_124 (fun H locs z => ?_)
  have z : zw D [(md, .inr (5, [.ref q_1, .ref q_3, .ref q_5, .ref q_7, .ref q_9, .ref q_11, .ref q_13, .ref q_15, .ref q_17, .ref q_19, .ref q_21, .ref q_23, .ref q_25, .ref q_27, .null, .int 0, .int 0, .int 0])), (q_1, .inl (cA_2, 12000, .inl (fun _ => 0))), (q_3, .inl (cA_4, 12000, .inl (fun _ => 0))), (q_5, .inl (cA_6, 12000, .inl (fun _ => 0))), (q_7, .inl (cA_8, 200, .inl (fun _ => 0))), (q_9, .inl (cA_10, 200, .inl (fun _ => 0))), (q_11, .inl (cA_12, 200, .inl (fun _ => 0))), (q_13, .inl (cA_14, 200, .inl (fun _ => 0))), (q_15, .inl (cA_16, 200, .inl (fun _ => 0))), (q_17, .inl (cA_18, 200, .inl (fun _ => 0))), (q_19, .inl (cA_20, 200, .inl (fun _ => 0))), (q_21, .inl (cA_22, 200, .inl (fun _ => 0))), (q_23, .inl (cA_24, 60, .inl (fun _ => 0))), (q_25, .inl (cA_26, 60, .inl (fun _ => 0))), (q_27, .inl (cA_28, 60, .inl (fun _ => 0)))] [(cA_2, .int), (cA_4, .int), (cA_6, .int), (cA_8, .int), (cA_10, .int), (cA_12, .int), (cA_14, .int), (cA_16, .int), (cA_18, .int), (cA_20, .int), (cA_22, .int), (cA_24, .int), (cA_26, .int), (cA_28, .boolean)] A s.heap s H locs := z
  refine lv_aload_n hx hb dX5_init_127 rfl (lv_at hl 0 rfl) ?_
  refine lv_sipush (v := 1600) hx hb dX5_init_128 (by decide) ?_
  refine z_newa (atype := .int) (ty := .int) (a0 := (1600, .inl (fun _ => 0))) hx hb hts (show Cond.arrayClass .int ∈ wsX5_init by decide +kernel) rfl z (fun _ => rfl) (by decide) (by decide) (by decide) (cells' := 15) (slots' := 39380) (Nat.le_of_ble_eq_true rfl) (Nat.le_of_ble_eq_true rfl) rfl rfl dX5_init_131 (fun q_29 cA_30 H z => ?_)
  have z : zw D [(md, .inr (5, [.ref q_1, .ref q_3, .ref q_5, .ref q_7, .ref q_9, .ref q_11, .ref q_13, .ref q_15, .ref q_17, .ref q_19, .ref q_21, .ref q_23, .ref q_25, .ref q_27, .null, .int 0, .int 0, .int 0])), (q_1, .inl (cA_2, 12000, .inl (fun _ => 0))), (q_3, .inl (cA_4, 12000, .inl (fun _ => 0))), (q_5, .inl (cA_6, 12000, .inl (fun _ => 0))), (q_7, .inl (cA_8, 200, .inl (fun _ => 0))), (q_9, .inl (cA_10, 200, .inl (fun _ => 0))), (q_11, .inl (cA_12, 200, .inl (fun _ => 0))), (q_13, .inl (cA_14, 200, .inl (fun _ => 0))), (q_15, .inl (cA_16, 200, .inl (fun _ => 0))), (q_17, .inl (cA_18, 200, .inl (fun _ => 0))), (q_19, .inl (cA_20, 200, .inl (fun _ => 0))), (q_21, .inl (cA_22, 200, .inl (fun _ => 0))), (q_23, .inl (cA_24, 60, .inl (fun _ => 0))), (q_25, .inl (cA_26, 60, .inl (fun _ => 0))), (q_27, .inl (cA_28, 60, .inl (fun _ => 0))), (q_29, .inl (cA_30, 1600, .inl (fun _ => 0)))] [(cA_2, .int), (cA_4, .int), (cA_6, .int), (cA_8, .int), (cA_10, .int), (cA_12, .int), (cA_14, .int), (cA_16, .int), (cA_18, .int), (cA_20, .int), (cA_22, .int), (cA_24, .int), (cA_26, .int), (cA_28, .boolean), (cA_30, .int)] A s.heap s H locs := z
  refine z_putF (v := .ref q_29) (C := RX5) (T := TX5) (N := 18) hx hb hts hiX5 tyX5 tyX5_ok nmX5 hown hin z 0 rfl rfl 14 (by decide) (show Cond.fieldLink RX5 55 "GainTrees$Rules" "arrived" "[I" ∈ wsX5_init by decide +kernel) rfl rfl rfl rfl rfl (Nat.le_of_ble_eq_true rfl) dX5_init_133 (fun H locs z => ?_)
  have z : zw D [(md, .inr (5, [.ref q_1, .ref q_3, .ref q_5, .ref q_7, .ref q_9, .ref q_11, .ref q_13, .ref q_15, .ref q_17, .ref q_19, .ref q_21, .ref q_23, .ref q_25, .ref q_27, .ref q_29, .int 0, .int 0, .int 0])), (q_1, .inl (cA_2, 12000, .inl (fun _ => 0))), (q_3, .inl (cA_4, 12000, .inl (fun _ => 0))), (q_5, .inl (cA_6, 12000, .inl (fun _ => 0))), (q_7, .inl (cA_8, 200, .inl (fun _ => 0))), (q_9, .inl (cA_10, 200, .inl (fun _ => 0))), (q_11, .inl (cA_12, 200, .inl (fun _ => 0))), (q_13, .inl (cA_14, 200, .inl (fun _ => 0))), (q_15, .inl (cA_16, 200, .inl (fun _ => 0))), (q_17, .inl (cA_18, 200, .inl (fun _ => 0))), (q_19, .inl (cA_20, 200, .inl (fun _ => 0))), (q_21, .inl (cA_22, 200, .inl (fun _ => 0))), (q_23, .inl (cA_24, 60, .inl (fun _ => 0))), (q_25, .inl (cA_26, 60, .inl (fun _ => 0))), (q_27, .inl (cA_28, 60, .inl (fun _ => 0))), (q_29, .inl (cA_30, 1600, .inl (fun _ => 0)))] [(cA_2, .int), (cA_4, .int), (cA_6, .int), (cA_8, .int), (cA_10, .int), (cA_12, .int), (cA_14, .int), (cA_16, .int), (cA_18, .int), (cA_20, .int), (cA_22, .int), (cA_24, .int), (cA_26, .int), (cA_28, .boolean), (cA_30, .int)] A s.heap s H locs := z
  exact z_vret hx hb hr hlocks z (fun t h => ⟨q_1, q_3, q_5, q_7, q_9, q_11, q_13, q_15, q_17, q_19, q_21, q_23, q_25, q_27, q_29, h.sub [0] [] (by decide) rfl rfl⟩) (Nat.le_of_ble_eq_true rfl) (Nat.le_of_ble_eq_true rfl) dX5_init_136

set_option maxHeartbeats 4000000 in
set_option maxRecDepth 100000 in
/-- Tree.leaves, of none -/
theorem c_X9_leaves (l : Launch) (D : va_G) (sz : Nat) (gw : Nat) (gw_0 : Nat) (gw_1 : Nat) (gw_2 : Nat) (gw_3 : Nat) (gw_4 : Nat) (gw_5 : Nat) (gw_6 : Nat) (gw_7 : Nat) (gw_8 : Nat) (gw_9 : Nat) (gw_10 : Nat) (gw_11 : Nat) (gw_12 : Nat) : Met l yX9_leaves wsX9_leaves ({ frames := 0, cells := 0, slots := 0, locals := 0 }) (va_Pc [.ref gw] (zI D [(gw, .inr (9, [.ref gw_0, .ref gw_1, .ref gw_2, .ref gw_3, .ref gw_4, .ref gw_5, .ref gw_6, .ref gw_7, .ref gw_8, .ref gw_9, .ref gw_10, .ref gw_11, .ref gw_12, .int 0]))] [] sz)) (va_Qi (fun (r : Int32) (_ : Unit) => 0 = r) (fun _ t => zB D (va_A [(gw, .inr (9, [.ref gw_0, .ref gw_1, .ref gw_2, .ref gw_3, .ref gw_4, .ref gw_5, .ref gw_6, .ref gw_7, .ref gw_8, .ref gw_9, .ref gw_10, .ref gw_11, .ref gw_12, .int 0]))] sz) [] [] t) (va_A [(gw, .inr (9, [.ref gw_0, .ref gw_1, .ref gw_2, .ref gw_3, .ref gw_4, .ref gw_5, .ref gw_6, .ref gw_7, .ref gw_8, .ref gw_9, .ref gw_10, .ref gw_11, .ref gw_12, .int 0]))] sz)) 0 0 (va_A [(gw, .inr (9, [.ref gw_0, .ref gw_1, .ref gw_2, .ref gw_3, .ref gw_4, .ref gw_5, .ref gw_6, .ref gw_7, .ref gw_8, .ref gw_9, .ref gw_10, .ref gw_11, .ref gw_12, .int 0]))] sz) := by
  refine Met.ofW (cc := cX9_leaves) (maxL := 3) (ret := (some .int)) (by decide) rfl ?_
  intro p e s m args below meth c s₁ B hml hv
  obtain ⟨rfl, hv⟩ := hv
  have hx := B.exec
  have hb := B.bytes
  have hr := B.returns
  have hts := atoms_spec (ws := wsX9_leaves) B.pre
  have hown : s.vm.findClass RX9 = some m.cls := findClass_of_methodNamed B.named
  have hlocks := B.notSynchronized
  have hiX9 : ∀ w ∈ u_ws RX9 TX9 14, w ∈ wsX9_leaves := (fun _ h => List.mem_cons_of_mem _ (List.mem_append_right _ h))
  obtain ⟨hsz, z⟩ := hv.start
  clear hv
  subst hsz
  generalize va_A [(gw, .inr (9, [.ref gw_0, .ref gw_1, .ref gw_2, .ref gw_3, .ref gw_4, .ref gw_5, .ref gw_6, .ref gw_7, .ref gw_8, .ref gw_9, .ref gw_10, .ref gw_11, .ref gw_12, .int 0]))] s.heap.size = A at z ⊢
  have hl := lv_entry ([.ref gw]) (n := 3) (Nat.le_of_ble_eq_true rfl)
  rw [lg_entry_eq]
  generalize (lg_sl ([.ref gw]) ++ List.replicate (3 - (lg_sl ([.ref gw])).length) Slot.unset).toArray = ls at hl ⊢
  have hl : lv_has ls 3 [(0, .ref gw)] := hl
  refine z_begin z (fun H locs z => ?_)
  refine lv_iconst (v := 0) hx hb dX9_leaves_0 (by decide) ?_
  refine lv_istore_n (lv' := [(1, .int 0), (0, .ref gw)]) hx hb dX9_leaves_1 rfl hl (by decide) rfl (fun ls hl => ?_)
  refine lv_iconst (v := 0) hx hb dX9_leaves_2 (by decide) ?_
  refine lv_istore_n (lv' := [(2, .int 0), (1, .int 0), (0, .ref gw)]) hx hb dX9_leaves_3 rfl hl (by decide) rfl (fun ls hl => ?_)
  refine lv_iload_n hx hb dX9_leaves_4 rfl (lv_at hl 0 rfl) ?_
  refine lv_aload_n hx hb dX9_leaves_5 rfl (lv_at hl 2 rfl) ?_
  refine z_get (v := .int 0) (C := RX9) (T := TX9) (N := 14) hx hb hts hiX9 hown z 0 rfl rfl 13 (by decide) (show Cond.fieldLink RX9 52 "GainTrees$Tree" "nodes" "I" ∈ wsX9_leaves by decide +kernel) rfl rfl dX9_leaves_6 ?_
  refine lv_icmp_ge (tgt := 30) hx hb dX9_leaves_9 (by decide) (fun c_1 => ?_) (fun c_1 => absurd (Int32.not_le.mp c_1) (by decide))
  refine lv_iload_n hx hb dX9_leaves_30 rfl (lv_at hl 1 rfl) ?_
  exact z_iret hx hb hr hlocks z (rfl) (fun t h => h.sub [] [] (by decide) rfl rfl) (Nat.le_of_ble_eq_true rfl) (Nat.le_of_ble_eq_true rfl) dX9_leaves_31

