set_option maxHeartbeats 4000000 in
set_option maxRecDepth 100000 in
theorem k_X6_checkArgument (l : Launch) (G : GT) (v lo hi : Int32) (hk : okA v lo hi) : Rv l yX6_checkArgument wsX6_checkArgument { frames := 6, cells := 0, slots := 0, locals := 100 } G ([] : va_W) [.int v, .int lo, .int hi] := by
  refine Met.ofW (cc := cX6_checkArgument) (maxL := 3) (ret := none) (by decide) rfl ?_
  intro p e s m args below meth c s₁ B hml hv
  obtain ⟨rfl, hP, hY⟩ := hv
  have hx := B.exec
  have hb := B.bytes
  have hr := B.returns
  have hts := atoms_spec (ws := wsX6_checkArgument) B.pre
  have hown : s.vm.findClass RX6 = some m.cls := findClass_of_methodNamed B.named
  have hlk := B.notSynchronized
  have CF : CallFix p m c cX6_checkArgument 3 s _ wsX6_checkArgument RX6 := ⟨hx, hb, hml, hown, hts⟩
  have hl := lv_entry ([.int v, .int lo, .int hi]) (n := 3) (Nat.le_of_ble_eq_true rfl)
  rw [lg_entry_eq]
  generalize (lg_sl ([.int v, .int lo, .int hi]) ++ List.replicate (3 - (lg_sl ([.int v, .int lo, .int hi])).length) Slot.unset).toArray = ls at hl ⊢
  have hl : lv_has ls 3 [(0, .int v), (1, .int lo), (2, .int hi)] := hl
  refine lv_iload_n hx hb dX6_checkArgument_0 rfl (lv_at hl 0 rfl) ?_
  refine lv_iload_n hx hb dX6_checkArgument_1 rfl (lv_at hl 1 rfl) ?_
  refine lv_icmp_lt (tgt := 10) hx hb dX6_checkArgument_2 (by decide) (fun h2_1 => ?_) (fun h2_1 => ?_)
  · exact absurd h2_1 hk.1
  · refine lv_iload_n hx hb dX6_checkArgument_5 rfl (lv_at hl 0 rfl) ?_
    refine lv_iload_n hx hb dX6_checkArgument_6 rfl (lv_at hl 2 rfl) ?_
    refine lv_icmp_le (tgt := 20) hx hb dX6_checkArgument_7 (by decide) (fun h7_2 => ?_) (fun h7_2 => ?_)
    · exact rv_vret hx hb hr hlk dX6_checkArgument_20
    · exact absurd hk.2 h7_2

set_option maxHeartbeats 4000000 in
set_option maxRecDepth 100000 in
theorem kn_X6_checkArgument (l : Launch) (hl0 : l.stackTraces = false) (G : GT) (v lo hi : Int32) (hk : ¬ okA v lo hi) : No l yX6_checkArgument wsX6_checkArgument { frames := 6, cells := 1, slots := 6, locals := 100 } G ([] : va_W) ([] : va_W) [.int v, .int lo, .int hi] "java/lang/IllegalArgumentException" := by
  intro sz
  refine vx_ofW (cc := cX6_checkArgument) (maxL := 3) (ret := none) (by decide) rfl ?_
  intro p e s m args below meth c s₁ B hml ht hv
  obtain ⟨rfl, hsz, hP, hY, hD0, hZ0⟩ := hv
  subst hsz
  have hD := hD0.self (sz := s.heap.size)
  generalize hAe : va_A ([] : va_W) s.heap.size = A at hD hZ0 ⊢
  have hZ : Zs A s s.heap := hZ0
  have hA : ∀ q : Nat, s.heap.size ≤ q → A q := fun q h => by rw [← hAe]; exact Or.inr h
  have hS : va_S A s.heap s.heap [] := va_S.rf
  have hx := B.exec
  have hb := B.bytes
  have hr := B.returns
  have hts := atoms_spec (ws := wsX6_checkArgument) B.pre
  have hown : s.vm.findClass RX6 = some m.cls := findClass_of_methodNamed B.named
  have hlk := B.notSynchronized
  have CF : CallFix p m c cX6_checkArgument 3 s _ wsX6_checkArgument RX6 := ⟨hx, hb, hml, hown, hts⟩
  obtain ⟨sa, hstr⟩ := hY.2.2.2 (176, "an argument is out of range") (by decide)
  have hat : ∀ w ∈ vx_atS RX6 178 "java/lang/IllegalArgumentException" ["java/lang/RuntimeException", "java/lang/Exception"], w.before ([.int v, .int lo, .int hi] : List Value).toArray s = true := vx_hat (B := [.castable "java/lang/IllegalArgumentException" "java/lang/IllegalArgumentException", .declares (Bundle.initS "java/lang/RuntimeException"), .declares (Bundle.initS "java/lang/Exception"), .declares (Bundle.initS Bundle.tN)]) (fun w hw => hts w (List.mem_cons_of_mem _ (List.mem_append_right _ hw))) (by decide +kernel) (vx_c (va_Nw.use rfl (hY.2.1 (.castable "java/lang/IllegalArgumentException" "java/lang/IllegalArgumentException") (List.mem_of_getElem? (i := 39) rfl))) (vx_c (va_Nw.use rfl (hZ.2.2 _ (List.mem_of_getElem? (i := 0) rfl))) (vx_c (va_Nw.use rfl (hZ.2.2 _ (List.mem_of_getElem? (i := 1) rfl))) (vx_c (va_Nw.use rfl (hZ.2.2 _ (List.mem_of_getElem? (i := 2) rfl))) vx_n))))
  have kcl := hts (.classLink RX6 174 "java/lang/IllegalArgumentException") (List.mem_cons_of_mem _ (List.mem_append_left _ (List.mem_of_getElem? (i := 0) rfl)))
  have kci := hts (.initialized "java/lang/IllegalArgumentException") (List.mem_cons_of_mem _ (List.mem_append_left _ (List.mem_of_getElem? (i := 1) rfl)))
  have hl := lv_entry ([.int v, .int lo, .int hi]) (n := 3) (Nat.le_of_ble_eq_true rfl)
  rw [lg_entry_eq]
  generalize (lg_sl ([.int v, .int lo, .int hi]) ++ List.replicate (3 - (lg_sl ([.int v, .int lo, .int hi])).length) Slot.unset).toArray = ls at hl ⊢
  have hl : lv_has ls 3 [(0, .int v), (1, .int lo), (2, .int hi)] := hl
  refine lv_iload_n hx hb dX6_checkArgument_0 rfl (lv_at hl 0 rfl) ?_
  refine lv_iload_n hx hb dX6_checkArgument_1 rfl (lv_at hl 1 rfl) ?_
  refine lv_icmp_lt (tgt := 10) hx hb dX6_checkArgument_2 (by decide) (fun h2_1 => ?_) (fun h2_1 => ?_)
  · exact vx_throwS hx hb hl0 (own := RX6) (cls := "java/lang/IllegalArgumentException") (names := ["java/lang/RuntimeException", "java/lang/Exception"]) (ik := 174) (is := 176) (ic := 178) (sa := sa) hown (by decide +kernel) (by decide +kernel) kcl kci hstr hat (by decide +kernel) hZ.1 hZ.2.1 hS (hl.1.trans hml.symm) dX6_checkArgument_10 dX6_checkArgument_13 dX6_checkArgument_14 dX6_checkArgument_16 dX6_checkArgument_19 (fun x hx => (ht x hx).elim) (Nat.le_of_ble_eq_true rfl) (Nat.le_of_ble_eq_true rfl) (Nat.le_of_ble_eq_true rfl) (Nat.le_of_ble_eq_true rfl) hlk (fun t _ hz hk => ⟨rfl, va_P_nil, ⟨Nat.le_of_lt hz, fun q h _ => hk q h⟩, hz⟩) hS.2.2 (Nat.le_refl _) (Nat.le_refl _)
  · refine lv_iload_n hx hb dX6_checkArgument_5 rfl (lv_at hl 0 rfl) ?_
    refine lv_iload_n hx hb dX6_checkArgument_6 rfl (lv_at hl 2 rfl) ?_
    refine lv_icmp_le (tgt := 20) hx hb dX6_checkArgument_7 (by decide) (fun h7_2 => ?_) (fun h7_2 => ?_)
    · exact absurd ⟨h2_1, h7_2⟩ hk
    · exact vx_throwS hx hb hl0 (own := RX6) (cls := "java/lang/IllegalArgumentException") (names := ["java/lang/RuntimeException", "java/lang/Exception"]) (ik := 174) (is := 176) (ic := 178) (sa := sa) hown (by decide +kernel) (by decide +kernel) kcl kci hstr hat (by decide +kernel) hZ.1 hZ.2.1 hS (hl.1.trans hml.symm) dX6_checkArgument_10 dX6_checkArgument_13 dX6_checkArgument_14 dX6_checkArgument_16 dX6_checkArgument_19 (fun x hx => (ht x hx).elim) (Nat.le_of_ble_eq_true rfl) (Nat.le_of_ble_eq_true rfl) (Nat.le_of_ble_eq_true rfl) (Nat.le_of_ble_eq_true rfl) hlk (fun t _ hz hk => ⟨rfl, va_P_nil, ⟨Nat.le_of_lt hz, fun q h _ => hk q h⟩, hz⟩) hS.2.2 (Nat.le_refl _) (Nat.le_refl _)

set_option maxHeartbeats 4000000 in
set_option maxRecDepth 100000 in
theorem k_X6_checkState (l : Launch) (G : GT) (v : Int32) (hk : ¬ v = 0) : Rv l yX6_checkState wsX6_checkState { frames := 6, cells := 0, slots := 0, locals := 100 } G ([] : va_W) [.int v] := by
  refine Met.ofW (cc := cX6_checkState) (maxL := 1) (ret := none) (by decide) rfl ?_
  intro p e s m args below meth c s₁ B hml hv
  obtain ⟨rfl, hP, hY⟩ := hv
  have hx := B.exec
  have hb := B.bytes
  have hr := B.returns
  have hts := atoms_spec (ws := wsX6_checkState) B.pre
  have hown : s.vm.findClass RX6 = some m.cls := findClass_of_methodNamed B.named
  have hlk := B.notSynchronized
  have CF : CallFix p m c cX6_checkState 1 s _ wsX6_checkState RX6 := ⟨hx, hb, hml, hown, hts⟩
  have hl := lv_entry ([.int v]) (n := 1) (Nat.le_of_ble_eq_true rfl)
  rw [lg_entry_eq]
  generalize (lg_sl ([.int v]) ++ List.replicate (1 - (lg_sl ([.int v])).length) Slot.unset).toArray = ls at hl ⊢
  have hl : lv_has ls 1 [(0, .int v)] := hl
  refine lv_iload_n hx hb dX6_checkState_0 rfl (lv_at hl 0 rfl) ?_
  refine lv_if_ne (tgt := 14) hx hb dX6_checkState_1 (by decide) (fun h1_1 => ?_) (fun h1_1 => ?_)
  · exact rv_vret hx hb hr hlk dX6_checkState_14
  · exact absurd h1_1 hk

set_option maxHeartbeats 4000000 in
set_option maxRecDepth 100000 in
theorem kn_X6_checkState (l : Launch) (hl0 : l.stackTraces = false) (G : GT) (v : Int32) (hk : ¬ ¬ v = 0) : No l yX6_checkState wsX6_checkState { frames := 6, cells := 1, slots := 6, locals := 100 } G ([] : va_W) ([] : va_W) [.int v] "java/lang/IllegalStateException" := by
  intro sz
  refine vx_ofW (cc := cX6_checkState) (maxL := 1) (ret := none) (by decide) rfl ?_
  intro p e s m args below meth c s₁ B hml ht hv
  obtain ⟨rfl, hsz, hP, hY, hD0, hZ0⟩ := hv
  subst hsz
  have hD := hD0.self (sz := s.heap.size)
  generalize hAe : va_A ([] : va_W) s.heap.size = A at hD hZ0 ⊢
  have hZ : Zs A s s.heap := hZ0
  have hA : ∀ q : Nat, s.heap.size ≤ q → A q := fun q h => by rw [← hAe]; exact Or.inr h
  have hS : va_S A s.heap s.heap [] := va_S.rf
  have hx := B.exec
  have hb := B.bytes
  have hr := B.returns
  have hts := atoms_spec (ws := wsX6_checkState) B.pre
  have hown : s.vm.findClass RX6 = some m.cls := findClass_of_methodNamed B.named
  have hlk := B.notSynchronized
  have CF : CallFix p m c cX6_checkState 1 s _ wsX6_checkState RX6 := ⟨hx, hb, hml, hown, hts⟩
  obtain ⟨sa, hstr⟩ := hY.2.2.2 (183, "the call is not possible now") (by decide)
  have hat : ∀ w ∈ vx_atS RX6 185 "java/lang/IllegalStateException" ["java/lang/RuntimeException", "java/lang/Exception"], w.before ([.int v] : List Value).toArray s = true := vx_hat (B := [.castable "java/lang/IllegalStateException" "java/lang/IllegalStateException", .declares (Bundle.initS "java/lang/RuntimeException"), .declares (Bundle.initS "java/lang/Exception"), .declares (Bundle.initS Bundle.tN)]) (fun w hw => hts w (List.mem_cons_of_mem _ (List.mem_append_right _ hw))) (by decide +kernel) (vx_c (va_Nw.use rfl (hY.2.1 (.castable "java/lang/IllegalStateException" "java/lang/IllegalStateException") (List.mem_of_getElem? (i := 40) rfl))) (vx_c (va_Nw.use rfl (hZ.2.2 _ (List.mem_of_getElem? (i := 0) rfl))) (vx_c (va_Nw.use rfl (hZ.2.2 _ (List.mem_of_getElem? (i := 1) rfl))) (vx_c (va_Nw.use rfl (hZ.2.2 _ (List.mem_of_getElem? (i := 2) rfl))) vx_n))))
  have kcl := hts (.classLink RX6 181 "java/lang/IllegalStateException") (List.mem_cons_of_mem _ (List.mem_append_left _ (List.mem_of_getElem? (i := 0) rfl)))
  have kci := hts (.initialized "java/lang/IllegalStateException") (List.mem_cons_of_mem _ (List.mem_append_left _ (List.mem_of_getElem? (i := 1) rfl)))
  have hl := lv_entry ([.int v]) (n := 1) (Nat.le_of_ble_eq_true rfl)
  rw [lg_entry_eq]
  generalize (lg_sl ([.int v]) ++ List.replicate (1 - (lg_sl ([.int v])).length) Slot.unset).toArray = ls at hl ⊢
  have hl : lv_has ls 1 [(0, .int v)] := hl
  refine lv_iload_n hx hb dX6_checkState_0 rfl (lv_at hl 0 rfl) ?_
  refine lv_if_ne (tgt := 14) hx hb dX6_checkState_1 (by decide) (fun h1_1 => ?_) (fun h1_1 => ?_)
  · exact absurd h1_1 hk
  · exact vx_throwS hx hb hl0 (own := RX6) (cls := "java/lang/IllegalStateException") (names := ["java/lang/RuntimeException", "java/lang/Exception"]) (ik := 181) (is := 183) (ic := 185) (sa := sa) hown (by decide +kernel) (by decide +kernel) kcl kci hstr hat (by decide +kernel) hZ.1 hZ.2.1 hS (hl.1.trans hml.symm) dX6_checkState_4 dX6_checkState_7 dX6_checkState_8 dX6_checkState_10 dX6_checkState_13 (fun x hx => (ht x hx).elim) (Nat.le_of_ble_eq_true rfl) (Nat.le_of_ble_eq_true rfl) (Nat.le_of_ble_eq_true rfl) (Nat.le_of_ble_eq_true rfl) hlk (fun t _ hz hk => ⟨rfl, va_P_nil, ⟨Nat.le_of_lt hz, fun q h _ => hk q h⟩, hz⟩) hS.2.2 (Nat.le_refl _) (Nat.le_refl _)

set_option maxHeartbeats 4000000 in
set_option maxRecDepth 100000 in
theorem k_X6_checkPlace (l : Launch) (G : GT) (v nn : Int32) (hk : okP v nn) : Rv l yX6_checkPlace wsX6_checkPlace { frames := 6, cells := 0, slots := 0, locals := 100 } G ([] : va_W) [.int v, .int nn] := by
  refine Met.ofW (cc := cX6_checkPlace) (maxL := 2) (ret := none) (by decide) rfl ?_
  intro p e s m args below meth c s₁ B hml hv
  obtain ⟨rfl, hP, hY⟩ := hv
  have hx := B.exec
  have hb := B.bytes
  have hr := B.returns
  have hts := atoms_spec (ws := wsX6_checkPlace) B.pre
  have hown : s.vm.findClass RX6 = some m.cls := findClass_of_methodNamed B.named
  have hlk := B.notSynchronized
  have CF : CallFix p m c cX6_checkPlace 2 s _ wsX6_checkPlace RX6 := ⟨hx, hb, hml, hown, hts⟩
  have hl := lv_entry ([.int v, .int nn]) (n := 2) (Nat.le_of_ble_eq_true rfl)
  rw [lg_entry_eq]
  generalize (lg_sl ([.int v, .int nn]) ++ List.replicate (2 - (lg_sl ([.int v, .int nn])).length) Slot.unset).toArray = ls at hl ⊢
  have hl : lv_has ls 2 [(0, .int v), (1, .int nn)] := hl
  refine lv_iload_n hx hb dX6_checkPlace_0 rfl (lv_at hl 0 rfl) ?_
  refine lv_if_lt (tgt := 9) hx hb dX6_checkPlace_1 (by decide) (fun h1_1 => ?_) (fun h1_1 => ?_)
  · exact absurd h1_1 hk.1
  · refine lv_iload_n hx hb dX6_checkPlace_4 rfl (lv_at hl 0 rfl) ?_
    refine lv_iload_n hx hb dX6_checkPlace_5 rfl (lv_at hl 1 rfl) ?_
    refine lv_icmp_lt (tgt := 19) hx hb dX6_checkPlace_6 (by decide) (fun h6_2 => ?_) (fun h6_2 => ?_)
    · exact rv_vret hx hb hr hlk dX6_checkPlace_19
    · exact absurd hk.2 h6_2

set_option maxHeartbeats 4000000 in
set_option maxRecDepth 100000 in
theorem kn_X6_checkPlace (l : Launch) (hl0 : l.stackTraces = false) (G : GT) (v nn : Int32) (hk : ¬ okP v nn) : No l yX6_checkPlace wsX6_checkPlace { frames := 6, cells := 1, slots := 6, locals := 100 } G ([] : va_W) ([] : va_W) [.int v, .int nn] "java/lang/IndexOutOfBoundsException" := by
  intro sz
  refine vx_ofW (cc := cX6_checkPlace) (maxL := 2) (ret := none) (by decide) rfl ?_
  intro p e s m args below meth c s₁ B hml ht hv
  obtain ⟨rfl, hsz, hP, hY, hD0, hZ0⟩ := hv
  subst hsz
  have hD := hD0.self (sz := s.heap.size)
  generalize hAe : va_A ([] : va_W) s.heap.size = A at hD hZ0 ⊢
  have hZ : Zs A s s.heap := hZ0
  have hA : ∀ q : Nat, s.heap.size ≤ q → A q := fun q h => by rw [← hAe]; exact Or.inr h
  have hS : va_S A s.heap s.heap [] := va_S.rf
  have hx := B.exec
  have hb := B.bytes
  have hr := B.returns
  have hts := atoms_spec (ws := wsX6_checkPlace) B.pre
  have hown : s.vm.findClass RX6 = some m.cls := findClass_of_methodNamed B.named
  have hlk := B.notSynchronized
  have CF : CallFix p m c cX6_checkPlace 2 s _ wsX6_checkPlace RX6 := ⟨hx, hb, hml, hown, hts⟩
  obtain ⟨sa, hstr⟩ := hY.2.2.2 (188, "there is no such place or slot") (by decide)
  have hat : ∀ w ∈ vx_atS RX6 190 "java/lang/IndexOutOfBoundsException" ["java/lang/RuntimeException", "java/lang/Exception"], w.before ([.int v, .int nn] : List Value).toArray s = true := vx_hat (B := [.castable "java/lang/IndexOutOfBoundsException" "java/lang/IndexOutOfBoundsException", .declares (Bundle.initS "java/lang/RuntimeException"), .declares (Bundle.initS "java/lang/Exception"), .declares (Bundle.initS Bundle.tN)]) (fun w hw => hts w (List.mem_cons_of_mem _ (List.mem_append_right _ hw))) (by decide +kernel) (vx_c (va_Nw.use rfl (hY.2.1 (.castable "java/lang/IndexOutOfBoundsException" "java/lang/IndexOutOfBoundsException") (List.mem_of_getElem? (i := 41) rfl))) (vx_c (va_Nw.use rfl (hZ.2.2 _ (List.mem_of_getElem? (i := 0) rfl))) (vx_c (va_Nw.use rfl (hZ.2.2 _ (List.mem_of_getElem? (i := 1) rfl))) (vx_c (va_Nw.use rfl (hZ.2.2 _ (List.mem_of_getElem? (i := 2) rfl))) vx_n))))
  have kcl := hts (.classLink RX6 186 "java/lang/IndexOutOfBoundsException") (List.mem_cons_of_mem _ (List.mem_append_left _ (List.mem_of_getElem? (i := 0) rfl)))
  have kci := hts (.initialized "java/lang/IndexOutOfBoundsException") (List.mem_cons_of_mem _ (List.mem_append_left _ (List.mem_of_getElem? (i := 1) rfl)))
  have hl := lv_entry ([.int v, .int nn]) (n := 2) (Nat.le_of_ble_eq_true rfl)
  rw [lg_entry_eq]
  generalize (lg_sl ([.int v, .int nn]) ++ List.replicate (2 - (lg_sl ([.int v, .int nn])).length) Slot.unset).toArray = ls at hl ⊢
  have hl : lv_has ls 2 [(0, .int v), (1, .int nn)] := hl
  refine lv_iload_n hx hb dX6_checkPlace_0 rfl (lv_at hl 0 rfl) ?_
  refine lv_if_lt (tgt := 9) hx hb dX6_checkPlace_1 (by decide) (fun h1_1 => ?_) (fun h1_1 => ?_)
  · exact vx_throwS hx hb hl0 (own := RX6) (cls := "java/lang/IndexOutOfBoundsException") (names := ["java/lang/RuntimeException", "java/lang/Exception"]) (ik := 186) (is := 188) (ic := 190) (sa := sa) hown (by decide +kernel) (by decide +kernel) kcl kci hstr hat (by decide +kernel) hZ.1 hZ.2.1 hS (hl.1.trans hml.symm) dX6_checkPlace_9 dX6_checkPlace_12 dX6_checkPlace_13 dX6_checkPlace_15 dX6_checkPlace_18 (fun x hx => (ht x hx).elim) (Nat.le_of_ble_eq_true rfl) (Nat.le_of_ble_eq_true rfl) (Nat.le_of_ble_eq_true rfl) (Nat.le_of_ble_eq_true rfl) hlk (fun t _ hz hk => ⟨rfl, va_P_nil, ⟨Nat.le_of_lt hz, fun q h _ => hk q h⟩, hz⟩) hS.2.2 (Nat.le_refl _) (Nat.le_refl _)
  · refine lv_iload_n hx hb dX6_checkPlace_4 rfl (lv_at hl 0 rfl) ?_
    refine lv_iload_n hx hb dX6_checkPlace_5 rfl (lv_at hl 1 rfl) ?_
    refine lv_icmp_lt (tgt := 19) hx hb dX6_checkPlace_6 (by decide) (fun h6_2 => ?_) (fun h6_2 => ?_)
    · exact absurd ⟨h1_1, h6_2⟩ hk
    · exact vx_throwS hx hb hl0 (own := RX6) (cls := "java/lang/IndexOutOfBoundsException") (names := ["java/lang/RuntimeException", "java/lang/Exception"]) (ik := 186) (is := 188) (ic := 190) (sa := sa) hown (by decide +kernel) (by decide +kernel) kcl kci hstr hat (by decide +kernel) hZ.1 hZ.2.1 hS (hl.1.trans hml.symm) dX6_checkPlace_9 dX6_checkPlace_12 dX6_checkPlace_13 dX6_checkPlace_15 dX6_checkPlace_18 (fun x hx => (ht x hx).elim) (Nat.le_of_ble_eq_true rfl) (Nat.le_of_ble_eq_true rfl) (Nat.le_of_ble_eq_true rfl) (Nat.le_of_ble_eq_true rfl) hlk (fun t _ hz hk => ⟨rfl, va_P_nil, ⟨Nat.le_of_lt hz, fun q h _ => hk q h⟩, hz⟩) hS.2.2 (Nat.le_refl _) (Nat.le_refl _)
