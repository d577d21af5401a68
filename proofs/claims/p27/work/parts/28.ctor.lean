def zRes : ResT := (0, 0, fun _ => 0, fun _ => 0)
def zGrp : GrpT := (0, zRes)
def zPri : PriT := (0, 0, fun _ => 0, fun _ => 0, fun _ => 0, fun _ => 0)
def zDis : DisT := (0, 0, fun _ => 0, fun _ => 0)
def zCha : ChaT := (0, 0, 0, 0, fun _ => 0, fun _ => 0)
def zStr : StrT := (0, 0, 0, zRes, zGrp, zGrp, zGrp, zGrp, zPri, zDis, zCha)
def zRR : RRT := (0, zStr, zStr, zPri, zDis)

set_option maxHeartbeats 4000000 in
set_option maxRecDepth 100000 in
theorem kc_X4_init (l : Launch) (G : GT) : Ct l yX4_init wsX4_init { frames := 2, cells := 2, slots := 32, locals := 30 } G (fun h0 => [(h0, .inr (4, [.null, .null, .int 0, .int 0]))]) (fun ad => wRes G ad 0 zRes) 2 32 := by
  intro h0 sz
  refine Met.ofW (cc := cX4_init) (maxL := 1) (ret := none) (by decide) rfl ?_
  intro p e s m args below meth c s₁ B hml hv
  obtain ⟨rfl, hsz, hP, hY, hD0⟩ := hv
  subst hsz
  have hD := hD0.self (sz := s.heap.size)
  skip
  generalize hAe : va_A [(h0, .inr (4, [.null, .null, .int 0, .int 0]))] s.heap.size = A at hD ⊢
  have hA : ∀ q : Nat, s.heap.size ≤ q → A q := fun q h => by rw [← hAe]; exact Or.inr h
  have hS : va_S A s.heap s.heap [] := va_S.rf
  have hx := B.exec
  have hb := B.bytes
  have hr := B.returns
  have hts := atoms_spec (ws := wsX4_init) B.pre
  have hown : s.vm.findClass RX4 = some m.cls := findClass_of_methodNamed B.named
  have hlk := B.notSynchronized
  have hin : meth.name = "<init>" := (name_of_methodNamed B.named B.method).1
  have CF : CallFix p m c cX4_init 1 s _ wsX4_init RX4 := ⟨hx, hb, hml, hown, hts⟩
  have hP : va_P G.1 vwCl ([(h0, .inr (4, [.null, .null, .int 0, .int 0]))] : va_W) s.heap := hP
  have hD : va_D A ([(h0, .inr (4, [.null, .null, .int 0, .int 0]))] : va_W) := hD
  have hl := lv_entry ([.ref h0]) (n := 1) (Nat.le_of_ble_eq_true rfl)
  rw [lg_entry_eq]
  generalize (lg_sl ([.ref h0]) ++ List.replicate (1 - (lg_sl ([.ref h0])).length) Slot.unset).toArray = ls at hl ⊢
  have hl : lv_has ls 1 [(0, .ref h0)] := hl
  refine lv_aload_n hx hb dX4_init_0 rfl (lv_at hl 0 rfl) ?_
  refine W.objInit hx hb hown (hts (.methodLink RX4 3 objectInit) (List.mem_cons_of_mem _ (List.mem_append_left _ (List.mem_of_getElem? (i := 0) rfl)))) (hts (.instanceMethod objectInit) (List.mem_cons_of_mem _ (List.mem_append_left _ (List.mem_of_getElem? (i := 1) rfl)))) (hts _ (List.mem_cons_of_mem _ (List.mem_append_left _ (List.mem_of_getElem? (i := 2) rfl)))) rfl (by rw [hml]; exact hl.1) rfl dX4_init_1 (Nat.le_of_ble_eq_true rfl) (Nat.le_of_ble_eq_true rfl) ?_
  refine W.eq (g2 := F0 m 4 ls []) rfl ?_
  refine lv_aload_n hx hb dX4_init_4 rfl (lv_at hl 0 rfl) ?_
  refine lv_bipush (v := 16) hx hb dX4_init_5 (by decide) ?_
  refine va_newa (atype := .int) (ty := .int) (N' := 16) (a0 := (16, .inl (fun _ => 0))) hx hb (hts (.arrayClass .int) (List.mem_cons_of_mem _ (List.mem_append_left _ (List.mem_of_getElem? (i := 3) rfl)))) rfl hY.1 hP hD hS hA (fun _ => rfl) (by decide) (by decide) (Nat.le_of_ble_eq_true rfl) (Nat.le_of_ble_eq_true rfl) (Nat.le_of_ble_eq_true rfl) dX4_init_7 (fun q1 cA H hK hP hD hS => ?_)
  obtain rfl : cA = G.2.1 := Sy.cls hK hY.1 (i := 1) (j := 0) rfl rfl (by decide)
  rw [show ([(h0, .inr (4, [.null, .null, .int 0, .int 0]))] : va_W) ++ [(q1, .inl (G.2.1, 16, .inl (fun _ => 0)))] = ([(h0, .inr (4, [.null, .null, .int 0, .int 0]))] ++ ([(q1, .inl (G.2.1, 16, .inl (fun _ => 0)))]) : va_W) from by simp only [List.append_assoc]] at hP hD
  refine W.widen (k := 1) (n := 16) (Nat.le_of_ble_eq_true rfl) (Nat.le_of_ble_eq_true rfl) ?_
  refine va_putF (D := G.1) (ci := 4) (v := .ref q1) (ty := .array .int) (C := RX4) (T := TX4) (N := 4) hx hb hts (fun w h => (List.mem_cons_of_mem _ (List.mem_append_right _ h))) tyX4 tyX4_ok nmX4 hown hY.1 hP hD hS 0 rfl rfl 0 (by decide) (hts (.fieldLink RX4 9 "ReservoirReed$Reservoir" "items" "[I") (List.mem_cons_of_mem _ (List.mem_append_left _ (List.mem_of_getElem? (i := 4) rfl)))) (fun _ h9 => h9) rfl hin rfl (by decide +kernel) rfl rfl (Nat.le_of_ble_eq_true rfl) dX4_init_9 (fun H locs hP hD hS => ?_)
  have hP : va_P G.1 vwCl ([(h0, .inr (4, [.ref q1, .null, .int 0, .int 0]))] ++ ([(q1, .inl (G.2.1, 16, .inl (fun _ => 0)))]) : va_W) H := hP
  have hD : va_D A ([(h0, .inr (4, [.ref q1, .null, .int 0, .int 0]))] ++ ([(q1, .inl (G.2.1, 16, .inl (fun _ => 0)))]) : va_W) := hD
  refine lv_aload_n hx hb dX4_init_12 rfl (lv_at hl 0 rfl) ?_
  refine lv_bipush (v := 16) hx hb dX4_init_13 (by decide) ?_
  refine va_newa (atype := .int) (ty := .int) (N' := 16) (a0 := (16, .inl (fun _ => 0))) hx hb (hts (.arrayClass .int) (List.mem_cons_of_mem _ (List.mem_append_left _ (List.mem_of_getElem? (i := 3) rfl)))) rfl hY.1 hP hD hS hA (fun _ => rfl) (by decide) (by decide) (Nat.le_of_ble_eq_true rfl) (Nat.le_of_ble_eq_true rfl) (Nat.le_of_ble_eq_true rfl) dX4_init_15 (fun q2 cA H hK hP hD hS => ?_)
  obtain rfl : cA = G.2.1 := Sy.cls hK hY.1 (i := 1) (j := 0) rfl rfl (by decide)
  rw [show ([(h0, .inr (4, [.ref q1, .null, .int 0, .int 0]))] ++ ([(q1, .inl (G.2.1, 16, .inl (fun _ => 0)))]) : va_W) ++ [(q2, .inl (G.2.1, 16, .inl (fun _ => 0)))] = ([(h0, .inr (4, [.ref q1, .null, .int 0, .int 0]))] ++ ([(q1, .inl (G.2.1, 16, .inl (fun _ => 0)))] ++ ([(q2, .inl (G.2.1, 16, .inl (fun _ => 0)))])) : va_W) from by simp only [List.append_assoc]] at hP hD
  refine W.widen (k := 2) (n := 32) (Nat.le_of_ble_eq_true rfl) (Nat.le_of_ble_eq_true rfl) ?_
  refine va_putF (D := G.1) (ci := 4) (v := .ref q2) (ty := .array .int) (C := RX4) (T := TX4) (N := 4) hx hb hts (fun w h => (List.mem_cons_of_mem _ (List.mem_append_right _ h))) tyX4 tyX4_ok nmX4 hown hY.1 hP hD hS 0 rfl rfl 1 (by decide) (hts (.fieldLink RX4 15 "ReservoirReed$Reservoir" "positions" "[I") (List.mem_cons_of_mem _ (List.mem_append_left _ (List.mem_of_getElem? (i := 5) rfl)))) (fun _ h9 => h9) rfl hin rfl (by decide +kernel) rfl rfl (Nat.le_of_ble_eq_true rfl) dX4_init_17 (fun H locs hP hD hS => ?_)
  have hP : va_P G.1 vwCl ([(h0, .inr (4, [.ref q1, .ref q2, .int 0, .int 0]))] ++ ([(q1, .inl (G.2.1, 16, .inl (fun _ => 0)))] ++ ([(q2, .inl (G.2.1, 16, .inl (fun _ => 0)))])) : va_W) H := hP
  have hD : va_D A ([(h0, .inr (4, [.ref q1, .ref q2, .int 0, .int 0]))] ++ ([(q1, .inl (G.2.1, 16, .inl (fun _ => 0)))] ++ ([(q2, .inl (G.2.1, 16, .inl (fun _ => 0)))])) : va_W) := hD
  exact ct_vret (ad := (cat2 1 (fun _ => h0) (cat2 1 (fun _ => q1) (fun _ => q2)))) hx hb hr hlk hS hP hD (by rfl) rfl dX4_init_20

set_option maxHeartbeats 4000000 in
set_option maxRecDepth 100000 in
theorem kc_X2_init (l : Launch) (G : GT) : Ct l yX2_init wsX2_init { frames := 3, cells := 3, slots := 36, locals := 50 } G (fun h0 => [(h0, .inr (2, [.null, .int 0]))]) (fun ad => wGrp G ad 0 zGrp) 3 36 := by
  intro h0 sz
  refine Met.ofW (cc := cX2_init) (maxL := 1) (ret := none) (by decide) rfl ?_
  intro p e s m args below meth c s₁ B hml hv
  obtain ⟨rfl, hsz, hP, hY, hD0⟩ := hv
  subst hsz
  have hD := hD0.self (sz := s.heap.size)
  skip
  generalize hAe : va_A [(h0, .inr (2, [.null, .int 0]))] s.heap.size = A at hD ⊢
  have hA : ∀ q : Nat, s.heap.size ≤ q → A q := fun q h => by rw [← hAe]; exact Or.inr h
  have hS : va_S A s.heap s.heap [] := va_S.rf
  have hx := B.exec
  have hb := B.bytes
  have hr := B.returns
  have hts := atoms_spec (ws := wsX2_init) B.pre
  have hown : s.vm.findClass RX2 = some m.cls := findClass_of_methodNamed B.named
  have hlk := B.notSynchronized
  have hin : meth.name = "<init>" := (name_of_methodNamed B.named B.method).1
  have CF : CallFix p m c cX2_init 1 s _ wsX2_init RX2 := ⟨hx, hb, hml, hown, hts⟩
  have hP : va_P G.1 vwCl ([(h0, .inr (2, [.null, .int 0]))] : va_W) s.heap := hP
  have hD : va_D A ([(h0, .inr (2, [.null, .int 0]))] : va_W) := hD
  have hl := lv_entry ([.ref h0]) (n := 1) (Nat.le_of_ble_eq_true rfl)
  rw [lg_entry_eq]
  generalize (lg_sl ([.ref h0]) ++ List.replicate (1 - (lg_sl ([.ref h0])).length) Slot.unset).toArray = ls at hl ⊢
  have hl : lv_has ls 1 [(0, .ref h0)] := hl
  refine lv_aload_n hx hb dX2_init_0 rfl (lv_at hl 0 rfl) ?_
  refine W.objInit hx hb hown (hts (.methodLink RX2 1 objectInit) (List.mem_cons_of_mem _ (List.mem_append_left _ (List.mem_append_left _ (List.mem_of_getElem? (i := 0) rfl))))) (hts (.instanceMethod objectInit) (List.mem_cons_of_mem _ (List.mem_append_left _ (List.mem_append_left _ (List.mem_of_getElem? (i := 1) rfl))))) (hts _ (List.mem_cons_of_mem _ (List.mem_append_left _ (List.mem_append_left _ (List.mem_of_getElem? (i := 2) rfl))))) rfl (by rw [hml]; exact hl.1) rfl dX2_init_1 (Nat.le_of_ble_eq_true rfl) (Nat.le_of_ble_eq_true rfl) ?_
  refine W.eq (g2 := F0 m 4 ls []) rfl ?_
  refine lv_aload_n hx hb dX2_init_4 rfl (lv_at hl 0 rfl) ?_
  refine va_new (ci := 4) (fs := [.null, .null, .int 0, .int 0]) (C := RX4) (T := TX4) (N := 4) hx hb hts (fun w h => (List.mem_cons_of_mem _ (List.mem_append_left _ (List.mem_append_right _ h)))) tyX4 tyX4_ok hown (hts (.classLink RX2 7 RX4) (List.mem_cons_of_mem _ (List.mem_append_left _ (List.mem_append_left _ (List.mem_of_getElem? (i := 3) rfl))))) (hts (.instantiable RX4 4) (List.mem_cons_of_mem _ (List.mem_append_left _ (List.mem_append_left _ (List.mem_of_getElem? (i := 4) rfl))))) (hts (.initialized RX4) (List.mem_cons_of_mem _ (List.mem_append_left _ (List.mem_append_left _ (List.mem_of_getElem? (i := 5) rfl))))) hY.1 hP hD hS hA rfl (fun j hj => by rcases (show j = 0 ∨ j = 1 ∨ j = 2 ∨ j = 3 by omega) with rfl | rfl | rfl | rfl <;> rfl) (Nat.le_of_ble_eq_true rfl) (Nat.le_of_ble_eq_true rfl) dX2_init_5 (fun q1 H hP hD hS => ?_)
  rw [show ([(h0, .inr (2, [.null, .int 0]))] : va_W) ++ [(q1, .inr (4, [.null, .null, .int 0, .int 0]))] = ([(h0, .inr (2, [.null, .int 0]))] ++ ([(q1, .inr (4, [.null, .null, .int 0, .int 0]))]) : va_W) from by simp only [List.append_assoc]] at hP hD
  refine W.widen (k := 1) (n := 4) (Nat.le_of_ble_eq_true rfl) (Nat.le_of_ble_eq_true rfl) ?_
  refine lv_dup hx hb dX2_init_8 rfl ?_
  have eA1 : ([(h0, .inr (2, [.null, .int 0]))] ++ ([(q1, .inr (4, [.null, .null, .int 0, .int 0]))]) : va_W) = ([(h0, .inr (2, [.null, .int 0]))] : va_W) ++ ([(q1, .inr (4, [.null, .null, .int 0, .int 0]))] ++ []) := by simp only [List.append_assoc, List.append_nil]
  rw [eA1] at hP hD
  refine ctIN (rest := [.ref q1, .ref h0]) ([(h0, .inr (2, [.null, .int 0]))] : va_W) [] q1 CF (kc_X4_init l G) ⟨va_cnB 0 hts gX2_init_X4_init_n9 rfl rfl rfl (hY.2.1 (.methodLinkNest RX2 9 yX4_init RX6) (List.mem_of_getElem? (i := 28) rfl)) (hts (.initialized RX4) (List.mem_cons_of_mem _ (List.mem_append_left _ (List.mem_append_left _ (List.mem_of_getElem? (i := 5) rfl))))) (by decide +kernel) ⟨Nat.le_of_ble_eq_true rfl, Nat.le_of_ble_eq_true rfl⟩, rfl, hts (.instanceMethod yX4_init) (List.mem_cons_of_mem _ (List.mem_append_left _ (List.mem_append_left _ (List.mem_of_getElem? (i := 7) rfl))))⟩ hP hD hS hA hY hl.1 rfl (lv_room (Nat.le_of_ble_eq_true rfl)) dX2_init_9 ⟨Nat.le_of_ble_eq_true rfl, Nat.le_of_ble_eq_true rfl⟩ (fun ad1 H locs had hPn hDn hS => ?_)
  subst had
  have hP : va_P G.1 vwCl (([(h0, .inr (2, [.null, .int 0]))] : va_W) ++ (wRes G ad1 0 zRes ++ [])) H := hPn
  have hD : va_D A (([(h0, .inr (2, [.null, .int 0]))] : va_W) ++ (wRes G ad1 0 zRes ++ [])) := hDn
  have eB1 : ([(h0, .inr (2, [.null, .int 0]))] : va_W) ++ (wRes G ad1 0 zRes ++ []) = ([(h0, .inr (2, [.null, .int 0]))] ++ (wRes G ad1 0 zRes) : va_W) := by simp only [List.append_assoc, List.append_nil]
  rw [eB1] at hP hD
  refine W.widen (k := 3) (n := 36) (Nat.le_of_ble_eq_true rfl) (Nat.le_of_ble_eq_true rfl) ?_
  refine va_putF (D := G.1) (ci := 2) (v := .ref (ad1 0)) (ty := .object "ReservoirReed$Reservoir") (C := RX2) (T := TX2) (N := 2) hx hb hts (fun w h => (List.mem_cons_of_mem _ (List.mem_append_right _ h))) tyX2 tyX2_ok nmX2 hown hY.1 hP hD hS 0 rfl rfl 0 (by decide) (hts (.fieldLink RX2 10 "ReservoirReed$Group" "reservoir" "LReservoirReed$Reservoir;") (List.mem_cons_of_mem _ (List.mem_append_left _ (List.mem_append_left _ (List.mem_of_getElem? (i := 6) rfl))))) (fun _ h9 => h9) rfl hin rfl (by decide +kernel) rfl rfl (Nat.le_of_ble_eq_true rfl) dX2_init_12 (fun H locs hP hD hS => ?_)
  have hP : va_P G.1 vwCl ([(h0, .inr (2, [.ref (ad1 0), .int 0]))] ++ (wRes G ad1 0 zRes) : va_W) H := hP
  have hD : va_D A ([(h0, .inr (2, [.ref (ad1 0), .int 0]))] ++ (wRes G ad1 0 zRes) : va_W) := hD
  exact ct_vret (ad := (cat2 1 (fun _ => h0) ad1)) hx hb hr hlk hS hP hD (by rfl) rfl dX2_init_15

set_option maxHeartbeats 4000000 in
set_option maxRecDepth 100000 in
theorem kc_X3_init (l : Launch) (G : GT) : Ct l yX3_init wsX3_init { frames := 2, cells := 4, slots := 68, locals := 30 } G (fun h0 => [(h0, .inr (3, [.null, .null, .null, .null, .int 0, .int 0]))]) (fun ad => wPri G ad 0 zPri) 4 68 := by
  intro h0 sz
  refine Met.ofW (cc := cX3_init) (maxL := 1) (ret := none) (by decide) rfl ?_
  intro p e s m args below meth c s₁ B hml hv
  obtain ⟨rfl, hsz, hP, hY, hD0⟩ := hv
  subst hsz
  have hD := hD0.self (sz := s.heap.size)
  skip
  generalize hAe : va_A [(h0, .inr (3, [.null, .null, .null, .null, .int 0, .int 0]))] s.heap.size = A at hD ⊢
  have hA : ∀ q : Nat, s.heap.size ≤ q → A q := fun q h => by rw [← hAe]; exact Or.inr h
  have hS : va_S A s.heap s.heap [] := va_S.rf
  have hx := B.exec
  have hb := B.bytes
  have hr := B.returns
  have hts := atoms_spec (ws := wsX3_init) B.pre
  have hown : s.vm.findClass RX3 = some m.cls := findClass_of_methodNamed B.named
  have hlk := B.notSynchronized
  have hin : meth.name = "<init>" := (name_of_methodNamed B.named B.method).1
  have CF : CallFix p m c cX3_init 1 s _ wsX3_init RX3 := ⟨hx, hb, hml, hown, hts⟩
  have hP : va_P G.1 vwCl ([(h0, .inr (3, [.null, .null, .null, .null, .int 0, .int 0]))] : va_W) s.heap := hP
  have hD : va_D A ([(h0, .inr (3, [.null, .null, .null, .null, .int 0, .int 0]))] : va_W) := hD
  have hl := lv_entry ([.ref h0]) (n := 1) (Nat.le_of_ble_eq_true rfl)
  rw [lg_entry_eq]
  generalize (lg_sl ([.ref h0]) ++ List.replicate (1 - (lg_sl ([.ref h0])).length) Slot.unset).toArray = ls at hl ⊢
  have hl : lv_has ls 1 [(0, .ref h0)] := hl
  refine lv_aload_n hx hb dX3_init_0 rfl (lv_at hl 0 rfl) ?_
  refine W.objInit hx hb hown (hts (.methodLink RX3 3 objectInit) (List.mem_cons_of_mem _ (List.mem_append_left _ (List.mem_of_getElem? (i := 0) rfl)))) (hts (.instanceMethod objectInit) (List.mem_cons_of_mem _ (List.mem_append_left _ (List.mem_of_getElem? (i := 1) rfl)))) (hts _ (List.mem_cons_of_mem _ (List.mem_append_left _ (List.mem_of_getElem? (i := 2) rfl)))) rfl (by rw [hml]; exact hl.1) rfl dX3_init_1 (Nat.le_of_ble_eq_true rfl) (Nat.le_of_ble_eq_true rfl) ?_
  refine W.eq (g2 := F0 m 4 ls []) rfl ?_
  refine lv_aload_n hx hb dX3_init_4 rfl (lv_at hl 0 rfl) ?_
  refine lv_bipush (v := 17) hx hb dX3_init_5 (by decide) ?_
  refine va_newa (atype := .int) (ty := .int) (N' := 17) (a0 := (17, .inl (fun _ => 0))) hx hb (hts (.arrayClass .int) (List.mem_cons_of_mem _ (List.mem_append_left _ (List.mem_of_getElem? (i := 3) rfl)))) rfl hY.1 hP hD hS hA (fun _ => rfl) (by decide) (by decide) (Nat.le_of_ble_eq_true rfl) (Nat.le_of_ble_eq_true rfl) (Nat.le_of_ble_eq_true rfl) dX3_init_7 (fun q1 cA H hK hP hD hS => ?_)
  obtain rfl : cA = G.2.1 := Sy.cls hK hY.1 (i := 1) (j := 0) rfl rfl (by decide)
  rw [show ([(h0, .inr (3, [.null, .null, .null, .null, .int 0, .int 0]))] : va_W) ++ [(q1, .inl (G.2.1, 17, .inl (fun _ => 0)))] = ([(h0, .inr (3, [.null, .null, .null, .null, .int 0, .int 0]))] ++ ([(q1, .inl (G.2.1, 17, .inl (fun _ => 0)))]) : va_W) from by simp only [List.append_assoc]] at hP hD
  refine W.widen (k := 1) (n := 17) (Nat.le_of_ble_eq_true rfl) (Nat.le_of_ble_eq_true rfl) ?_
  refine va_putF (D := G.1) (ci := 3) (v := .ref q1) (ty := .array .int) (C := RX3) (T := TX3) (N := 6) hx hb hts (fun w h => (List.mem_cons_of_mem _ (List.mem_append_right _ h))) tyX3 tyX3_ok nmX3 hown hY.1 hP hD hS 0 rfl rfl 0 (by decide) (hts (.fieldLink RX3 9 "ReservoirReed$Priorities" "items" "[I") (List.mem_cons_of_mem _ (List.mem_append_left _ (List.mem_of_getElem? (i := 4) rfl)))) (fun _ h9 => h9) rfl hin rfl (by decide +kernel) rfl rfl (Nat.le_of_ble_eq_true rfl) dX3_init_9 (fun H locs hP hD hS => ?_)
  have hP : va_P G.1 vwCl ([(h0, .inr (3, [.ref q1, .null, .null, .null, .int 0, .int 0]))] ++ ([(q1, .inl (G.2.1, 17, .inl (fun _ => 0)))]) : va_W) H := hP
  have hD : va_D A ([(h0, .inr (3, [.ref q1, .null, .null, .null, .int 0, .int 0]))] ++ ([(q1, .inl (G.2.1, 17, .inl (fun _ => 0)))]) : va_W) := hD
  refine lv_aload_n hx hb dX3_init_12 rfl (lv_at hl 0 rfl) ?_
  refine lv_bipush (v := 17) hx hb dX3_init_13 (by decide) ?_
  refine va_newa (atype := .int) (ty := .int) (N' := 17) (a0 := (17, .inl (fun _ => 0))) hx hb (hts (.arrayClass .int) (List.mem_cons_of_mem _ (List.mem_append_left _ (List.mem_of_getElem? (i := 3) rfl)))) rfl hY.1 hP hD hS hA (fun _ => rfl) (by decide) (by decide) (Nat.le_of_ble_eq_true rfl) (Nat.le_of_ble_eq_true rfl) (Nat.le_of_ble_eq_true rfl) dX3_init_15 (fun q2 cA H hK hP hD hS => ?_)
  obtain rfl : cA = G.2.1 := Sy.cls hK hY.1 (i := 1) (j := 0) rfl rfl (by decide)
  rw [show ([(h0, .inr (3, [.ref q1, .null, .null, .null, .int 0, .int 0]))] ++ ([(q1, .inl (G.2.1, 17, .inl (fun _ => 0)))]) : va_W) ++ [(q2, .inl (G.2.1, 17, .inl (fun _ => 0)))] = ([(h0, .inr (3, [.ref q1, .null, .null, .null, .int 0, .int 0]))] ++ ([(q1, .inl (G.2.1, 17, .inl (fun _ => 0)))] ++ ([(q2, .inl (G.2.1, 17, .inl (fun _ => 0)))])) : va_W) from by simp only [List.append_assoc]] at hP hD
  refine W.widen (k := 2) (n := 34) (Nat.le_of_ble_eq_true rfl) (Nat.le_of_ble_eq_true rfl) ?_
  refine va_putF (D := G.1) (ci := 3) (v := .ref q2) (ty := .array .int) (C := RX3) (T := TX3) (N := 6) hx hb hts (fun w h => (List.mem_cons_of_mem _ (List.mem_append_right _ h))) tyX3 tyX3_ok nmX3 hown hY.1 hP hD hS 0 rfl rfl 1 (by decide) (hts (.fieldLink RX3 15 "ReservoirReed$Priorities" "weights" "[I") (List.mem_cons_of_mem _ (List.mem_append_left _ (List.mem_of_getElem? (i := 5) rfl)))) (fun _ h9 => h9) rfl hin rfl (by decide +kernel) rfl rfl (Nat.le_of_ble_eq_true rfl) dX3_init_17 (fun H locs hP hD hS => ?_)
  have hP : va_P G.1 vwCl ([(h0, .inr (3, [.ref q1, .ref q2, .null, .null, .int 0, .int 0]))] ++ ([(q1, .inl (G.2.1, 17, .inl (fun _ => 0)))] ++ ([(q2, .inl (G.2.1, 17, .inl (fun _ => 0)))])) : va_W) H := hP
  have hD : va_D A ([(h0, .inr (3, [.ref q1, .ref q2, .null, .null, .int 0, .int 0]))] ++ ([(q1, .inl (G.2.1, 17, .inl (fun _ => 0)))] ++ ([(q2, .inl (G.2.1, 17, .inl (fun _ => 0)))])) : va_W) := hD
  refine lv_aload_n hx hb dX3_init_20 rfl (lv_at hl 0 rfl) ?_
  refine lv_bipush (v := 17) hx hb dX3_init_21 (by decide) ?_
  refine va_newa (atype := .int) (ty := .int) (N' := 17) (a0 := (17, .inl (fun _ => 0))) hx hb (hts (.arrayClass .int) (List.mem_cons_of_mem _ (List.mem_append_left _ (List.mem_of_getElem? (i := 3) rfl)))) rfl hY.1 hP hD hS hA (fun _ => rfl) (by decide) (by decide) (Nat.le_of_ble_eq_true rfl) (Nat.le_of_ble_eq_true rfl) (Nat.le_of_ble_eq_true rfl) dX3_init_23 (fun q3 cA H hK hP hD hS => ?_)
  obtain rfl : cA = G.2.1 := Sy.cls hK hY.1 (i := 1) (j := 0) rfl rfl (by decide)
  rw [show ([(h0, .inr (3, [.ref q1, .ref q2, .null, .null, .int 0, .int 0]))] ++ ([(q1, .inl (G.2.1, 17, .inl (fun _ => 0)))] ++ ([(q2, .inl (G.2.1, 17, .inl (fun _ => 0)))])) : va_W) ++ [(q3, .inl (G.2.1, 17, .inl (fun _ => 0)))] = ([(h0, .inr (3, [.ref q1, .ref q2, .null, .null, .int 0, .int 0]))] ++ ([(q1, .inl (G.2.1, 17, .inl (fun _ => 0)))] ++ ([(q2, .inl (G.2.1, 17, .inl (fun _ => 0)))] ++ ([(q3, .inl (G.2.1, 17, .inl (fun _ => 0)))]))) : va_W) from by simp only [List.append_assoc]] at hP hD
  refine W.widen (k := 3) (n := 51) (Nat.le_of_ble_eq_true rfl) (Nat.le_of_ble_eq_true rfl) ?_
  refine va_putF (D := G.1) (ci := 3) (v := .ref q3) (ty := .array .int) (C := RX3) (T := TX3) (N := 6) hx hb hts (fun w h => (List.mem_cons_of_mem _ (List.mem_append_right _ h))) tyX3 tyX3_ok nmX3 hown hY.1 hP hD hS 0 rfl rfl 2 (by decide) (hts (.fieldLink RX3 18 "ReservoirReed$Priorities" "groups" "[I") (List.mem_cons_of_mem _ (List.mem_append_left _ (List.mem_of_getElem? (i := 6) rfl)))) (fun _ h9 => h9) rfl hin rfl (by decide +kernel) rfl rfl (Nat.le_of_ble_eq_true rfl) dX3_init_25 (fun H locs hP hD hS => ?_)
  have hP : va_P G.1 vwCl ([(h0, .inr (3, [.ref q1, .ref q2, .ref q3, .null, .int 0, .int 0]))] ++ ([(q1, .inl (G.2.1, 17, .inl (fun _ => 0)))] ++ ([(q2, .inl (G.2.1, 17, .inl (fun _ => 0)))] ++ ([(q3, .inl (G.2.1, 17, .inl (fun _ => 0)))]))) : va_W) H := hP
  have hD : va_D A ([(h0, .inr (3, [.ref q1, .ref q2, .ref q3, .null, .int 0, .int 0]))] ++ ([(q1, .inl (G.2.1, 17, .inl (fun _ => 0)))] ++ ([(q2, .inl (G.2.1, 17, .inl (fun _ => 0)))] ++ ([(q3, .inl (G.2.1, 17, .inl (fun _ => 0)))]))) : va_W) := hD
  refine lv_aload_n hx hb dX3_init_28 rfl (lv_at hl 0 rfl) ?_
  refine lv_bipush (v := 17) hx hb dX3_init_29 (by decide) ?_
  refine va_newa (atype := .int) (ty := .int) (N' := 17) (a0 := (17, .inl (fun _ => 0))) hx hb (hts (.arrayClass .int) (List.mem_cons_of_mem _ (List.mem_append_left _ (List.mem_of_getElem? (i := 3) rfl)))) rfl hY.1 hP hD hS hA (fun _ => rfl) (by decide) (by decide) (Nat.le_of_ble_eq_true rfl) (Nat.le_of_ble_eq_true rfl) (Nat.le_of_ble_eq_true rfl) dX3_init_31 (fun q4 cA H hK hP hD hS => ?_)
  obtain rfl : cA = G.2.1 := Sy.cls hK hY.1 (i := 1) (j := 0) rfl rfl (by decide)
  rw [show ([(h0, .inr (3, [.ref q1, .ref q2, .ref q3, .null, .int 0, .int 0]))] ++ ([(q1, .inl (G.2.1, 17, .inl (fun _ => 0)))] ++ ([(q2, .inl (G.2.1, 17, .inl (fun _ => 0)))] ++ ([(q3, .inl (G.2.1, 17, .inl (fun _ => 0)))]))) : va_W) ++ [(q4, .inl (G.2.1, 17, .inl (fun _ => 0)))] = ([(h0, .inr (3, [.ref q1, .ref q2, .ref q3, .null, .int 0, .int 0]))] ++ ([(q1, .inl (G.2.1, 17, .inl (fun _ => 0)))] ++ ([(q2, .inl (G.2.1, 17, .inl (fun _ => 0)))] ++ ([(q3, .inl (G.2.1, 17, .inl (fun _ => 0)))] ++ ([(q4, .inl (G.2.1, 17, .inl (fun _ => 0)))])))) : va_W) from by simp only [List.append_assoc]] at hP hD
  refine W.widen (k := 4) (n := 68) (Nat.le_of_ble_eq_true rfl) (Nat.le_of_ble_eq_true rfl) ?_
  refine va_putF (D := G.1) (ci := 3) (v := .ref q4) (ty := .array .int) (C := RX3) (T := TX3) (N := 6) hx hb hts (fun w h => (List.mem_cons_of_mem _ (List.mem_append_right _ h))) tyX3 tyX3_ok nmX3 hown hY.1 hP hD hS 0 rfl rfl 3 (by decide) (hts (.fieldLink RX3 21 "ReservoirReed$Priorities" "dice" "[I") (List.mem_cons_of_mem _ (List.mem_append_left _ (List.mem_of_getElem? (i := 7) rfl)))) (fun _ h9 => h9) rfl hin rfl (by decide +kernel) rfl rfl (Nat.le_of_ble_eq_true rfl) dX3_init_33 (fun H locs hP hD hS => ?_)
  have hP : va_P G.1 vwCl ([(h0, .inr (3, [.ref q1, .ref q2, .ref q3, .ref q4, .int 0, .int 0]))] ++ ([(q1, .inl (G.2.1, 17, .inl (fun _ => 0)))] ++ ([(q2, .inl (G.2.1, 17, .inl (fun _ => 0)))] ++ ([(q3, .inl (G.2.1, 17, .inl (fun _ => 0)))] ++ ([(q4, .inl (G.2.1, 17, .inl (fun _ => 0)))])))) : va_W) H := hP
  have hD : va_D A ([(h0, .inr (3, [.ref q1, .ref q2, .ref q3, .ref q4, .int 0, .int 0]))] ++ ([(q1, .inl (G.2.1, 17, .inl (fun _ => 0)))] ++ ([(q2, .inl (G.2.1, 17, .inl (fun _ => 0)))] ++ ([(q3, .inl (G.2.1, 17, .inl (fun _ => 0)))] ++ ([(q4, .inl (G.2.1, 17, .inl (fun _ => 0)))])))) : va_W) := hD
  exact ct_vret (ad := (cat2 1 (fun _ => h0) (cat2 1 (fun _ => q1) (cat2 1 (fun _ => q2) (cat2 1 (fun _ => q3) (fun _ => q4)))))) hx hb hr hlk hS hP hD (by rfl) rfl dX3_init_36

set_option maxHeartbeats 4000000 in
set_option maxRecDepth 100000 in
theorem kc_X1_init (l : Launch) (G : GT) : Ct l yX1_init wsX1_init { frames := 2, cells := 2, slots := 32, locals := 30 } G (fun h0 => [(h0, .inr (1, [.null, .null, .int 0, .int 0]))]) (fun ad => wDis G ad 0 zDis) 2 32 := by
  intro h0 sz
  refine Met.ofW (cc := cX1_init) (maxL := 1) (ret := none) (by decide) rfl ?_
  intro p e s m args below meth c s₁ B hml hv
  obtain ⟨rfl, hsz, hP, hY, hD0⟩ := hv
  subst hsz
  have hD := hD0.self (sz := s.heap.size)
  skip
  generalize hAe : va_A [(h0, .inr (1, [.null, .null, .int 0, .int 0]))] s.heap.size = A at hD ⊢
  have hA : ∀ q : Nat, s.heap.size ≤ q → A q := fun q h => by rw [← hAe]; exact Or.inr h
  have hS : va_S A s.heap s.heap [] := va_S.rf
  have hx := B.exec
  have hb := B.bytes
  have hr := B.returns
  have hts := atoms_spec (ws := wsX1_init) B.pre
  have hown : s.vm.findClass RX1 = some m.cls := findClass_of_methodNamed B.named
  have hlk := B.notSynchronized
  have hin : meth.name = "<init>" := (name_of_methodNamed B.named B.method).1
  have CF : CallFix p m c cX1_init 1 s _ wsX1_init RX1 := ⟨hx, hb, hml, hown, hts⟩
  have hP : va_P G.1 vwCl ([(h0, .inr (1, [.null, .null, .int 0, .int 0]))] : va_W) s.heap := hP
  have hD : va_D A ([(h0, .inr (1, [.null, .null, .int 0, .int 0]))] : va_W) := hD
  have hl := lv_entry ([.ref h0]) (n := 1) (Nat.le_of_ble_eq_true rfl)
  rw [lg_entry_eq]
  generalize (lg_sl ([.ref h0]) ++ List.replicate (1 - (lg_sl ([.ref h0])).length) Slot.unset).toArray = ls at hl ⊢
  have hl : lv_has ls 1 [(0, .ref h0)] := hl
  refine lv_aload_n hx hb dX1_init_0 rfl (lv_at hl 0 rfl) ?_
  refine W.objInit hx hb hown (hts (.methodLink RX1 3 objectInit) (List.mem_cons_of_mem _ (List.mem_append_left _ (List.mem_of_getElem? (i := 0) rfl)))) (hts (.instanceMethod objectInit) (List.mem_cons_of_mem _ (List.mem_append_left _ (List.mem_of_getElem? (i := 1) rfl)))) (hts _ (List.mem_cons_of_mem _ (List.mem_append_left _ (List.mem_of_getElem? (i := 2) rfl)))) rfl (by rw [hml]; exact hl.1) rfl dX1_init_1 (Nat.le_of_ble_eq_true rfl) (Nat.le_of_ble_eq_true rfl) ?_
  refine W.eq (g2 := F0 m 4 ls []) rfl ?_
  refine lv_aload_n hx hb dX1_init_4 rfl (lv_at hl 0 rfl) ?_
  refine lv_bipush (v := 16) hx hb dX1_init_5 (by decide) ?_
  refine va_newa (atype := .int) (ty := .int) (N' := 16) (a0 := (16, .inl (fun _ => 0))) hx hb (hts (.arrayClass .int) (List.mem_cons_of_mem _ (List.mem_append_left _ (List.mem_of_getElem? (i := 3) rfl)))) rfl hY.1 hP hD hS hA (fun _ => rfl) (by decide) (by decide) (Nat.le_of_ble_eq_true rfl) (Nat.le_of_ble_eq_true rfl) (Nat.le_of_ble_eq_true rfl) dX1_init_7 (fun q1 cA H hK hP hD hS => ?_)
  obtain rfl : cA = G.2.1 := Sy.cls hK hY.1 (i := 1) (j := 0) rfl rfl (by decide)
  rw [show ([(h0, .inr (1, [.null, .null, .int 0, .int 0]))] : va_W) ++ [(q1, .inl (G.2.1, 16, .inl (fun _ => 0)))] = ([(h0, .inr (1, [.null, .null, .int 0, .int 0]))] ++ ([(q1, .inl (G.2.1, 16, .inl (fun _ => 0)))]) : va_W) from by simp only [List.append_assoc]] at hP hD
  refine W.widen (k := 1) (n := 16) (Nat.le_of_ble_eq_true rfl) (Nat.le_of_ble_eq_true rfl) ?_
  refine va_putF (D := G.1) (ci := 1) (v := .ref q1) (ty := .array .int) (C := RX1) (T := TX1) (N := 4) hx hb hts (fun w h => (List.mem_cons_of_mem _ (List.mem_append_right _ h))) tyX1 tyX1_ok nmX1 hown hY.1 hP hD hS 0 rfl rfl 0 (by decide) (hts (.fieldLink RX1 9 "ReservoirReed$Distinct" "items" "[I") (List.mem_cons_of_mem _ (List.mem_append_left _ (List.mem_of_getElem? (i := 4) rfl)))) (fun _ h9 => h9) rfl hin rfl (by decide +kernel) rfl rfl (Nat.le_of_ble_eq_true rfl) dX1_init_9 (fun H locs hP hD hS => ?_)
  have hP : va_P G.1 vwCl ([(h0, .inr (1, [.ref q1, .null, .int 0, .int 0]))] ++ ([(q1, .inl (G.2.1, 16, .inl (fun _ => 0)))]) : va_W) H := hP
  have hD : va_D A ([(h0, .inr (1, [.ref q1, .null, .int 0, .int 0]))] ++ ([(q1, .inl (G.2.1, 16, .inl (fun _ => 0)))]) : va_W) := hD
  refine lv_aload_n hx hb dX1_init_12 rfl (lv_at hl 0 rfl) ?_
  refine lv_bipush (v := 16) hx hb dX1_init_13 (by decide) ?_
  refine va_newa (atype := .int) (ty := .int) (N' := 16) (a0 := (16, .inl (fun _ => 0))) hx hb (hts (.arrayClass .int) (List.mem_cons_of_mem _ (List.mem_append_left _ (List.mem_of_getElem? (i := 3) rfl)))) rfl hY.1 hP hD hS hA (fun _ => rfl) (by decide) (by decide) (Nat.le_of_ble_eq_true rfl) (Nat.le_of_ble_eq_true rfl) (Nat.le_of_ble_eq_true rfl) dX1_init_15 (fun q2 cA H hK hP hD hS => ?_)
  obtain rfl : cA = G.2.1 := Sy.cls hK hY.1 (i := 1) (j := 0) rfl rfl (by decide)
  rw [show ([(h0, .inr (1, [.ref q1, .null, .int 0, .int 0]))] ++ ([(q1, .inl (G.2.1, 16, .inl (fun _ => 0)))]) : va_W) ++ [(q2, .inl (G.2.1, 16, .inl (fun _ => 0)))] = ([(h0, .inr (1, [.ref q1, .null, .int 0, .int 0]))] ++ ([(q1, .inl (G.2.1, 16, .inl (fun _ => 0)))] ++ ([(q2, .inl (G.2.1, 16, .inl (fun _ => 0)))])) : va_W) from by simp only [List.append_assoc]] at hP hD
  refine W.widen (k := 2) (n := 32) (Nat.le_of_ble_eq_true rfl) (Nat.le_of_ble_eq_true rfl) ?_
  refine va_putF (D := G.1) (ci := 1) (v := .ref q2) (ty := .array .int) (C := RX1) (T := TX1) (N := 4) hx hb hts (fun w h => (List.mem_cons_of_mem _ (List.mem_append_right _ h))) tyX1 tyX1_ok nmX1 hown hY.1 hP hD hS 0 rfl rfl 1 (by decide) (hts (.fieldLink RX1 15 "ReservoirReed$Distinct" "times" "[I") (List.mem_cons_of_mem _ (List.mem_append_left _ (List.mem_of_getElem? (i := 5) rfl)))) (fun _ h9 => h9) rfl hin rfl (by decide +kernel) rfl rfl (Nat.le_of_ble_eq_true rfl) dX1_init_17 (fun H locs hP hD hS => ?_)
  have hP : va_P G.1 vwCl ([(h0, .inr (1, [.ref q1, .ref q2, .int 0, .int 0]))] ++ ([(q1, .inl (G.2.1, 16, .inl (fun _ => 0)))] ++ ([(q2, .inl (G.2.1, 16, .inl (fun _ => 0)))])) : va_W) H := hP
  have hD : va_D A ([(h0, .inr (1, [.ref q1, .ref q2, .int 0, .int 0]))] ++ ([(q1, .inl (G.2.1, 16, .inl (fun _ => 0)))] ++ ([(q2, .inl (G.2.1, 16, .inl (fun _ => 0)))])) : va_W) := hD
  exact ct_vret (ad := (cat2 1 (fun _ => h0) (cat2 1 (fun _ => q1) (fun _ => q2)))) hx hb hr hlk hS hP hD (by rfl) rfl dX1_init_20

set_option maxHeartbeats 4000000 in
set_option maxRecDepth 100000 in
theorem kc_X0_init (l : Launch) (G : GT) : Ct l yX0_init wsX0_init { frames := 2, cells := 2, slots := 600, locals := 30 } G (fun h0 => [(h0, .inr (0, [.null, .null, .int 0, .int 0, .int 0, .int 0]))]) (fun ad => wCha G ad 0 zCha) 2 600 := by
  intro h0 sz
  refine Met.ofW (cc := cX0_init) (maxL := 1) (ret := none) (by decide) rfl ?_
  intro p e s m args below meth c s₁ B hml hv
  obtain ⟨rfl, hsz, hP, hY, hD0⟩ := hv
  subst hsz
  have hD := hD0.self (sz := s.heap.size)
  skip
  generalize hAe : va_A [(h0, .inr (0, [.null, .null, .int 0, .int 0, .int 0, .int 0]))] s.heap.size = A at hD ⊢
  have hA : ∀ q : Nat, s.heap.size ≤ q → A q := fun q h => by rw [← hAe]; exact Or.inr h
  have hS : va_S A s.heap s.heap [] := va_S.rf
  have hx := B.exec
  have hb := B.bytes
  have hr := B.returns
  have hts := atoms_spec (ws := wsX0_init) B.pre
  have hown : s.vm.findClass RX0 = some m.cls := findClass_of_methodNamed B.named
  have hlk := B.notSynchronized
  have hin : meth.name = "<init>" := (name_of_methodNamed B.named B.method).1
  have CF : CallFix p m c cX0_init 1 s _ wsX0_init RX0 := ⟨hx, hb, hml, hown, hts⟩
  have hP : va_P G.1 vwCl ([(h0, .inr (0, [.null, .null, .int 0, .int 0, .int 0, .int 0]))] : va_W) s.heap := hP
  have hD : va_D A ([(h0, .inr (0, [.null, .null, .int 0, .int 0, .int 0, .int 0]))] : va_W) := hD
  have hl := lv_entry ([.ref h0]) (n := 1) (Nat.le_of_ble_eq_true rfl)
  rw [lg_entry_eq]
  generalize (lg_sl ([.ref h0]) ++ List.replicate (1 - (lg_sl ([.ref h0])).length) Slot.unset).toArray = ls at hl ⊢
  have hl : lv_has ls 1 [(0, .ref h0)] := hl
  refine lv_aload_n hx hb dX0_init_0 rfl (lv_at hl 0 rfl) ?_
  refine W.objInit hx hb hown (hts (.methodLink RX0 3 objectInit) (List.mem_cons_of_mem _ (List.mem_append_left _ (List.mem_of_getElem? (i := 0) rfl)))) (hts (.instanceMethod objectInit) (List.mem_cons_of_mem _ (List.mem_append_left _ (List.mem_of_getElem? (i := 1) rfl)))) (hts _ (List.mem_cons_of_mem _ (List.mem_append_left _ (List.mem_of_getElem? (i := 2) rfl)))) rfl (by rw [hml]; exact hl.1) rfl dX0_init_1 (Nat.le_of_ble_eq_true rfl) (Nat.le_of_ble_eq_true rfl) ?_
  refine W.eq (g2 := F0 m 4 ls []) rfl ?_
  refine lv_aload_n hx hb dX0_init_4 rfl (lv_at hl 0 rfl) ?_
  refine lv_sipush (v := 300) hx hb dX0_init_5 (by decide) ?_
  refine va_newa (atype := .int) (ty := .int) (N' := 300) (a0 := (300, .inl (fun _ => 0))) hx hb (hts (.arrayClass .int) (List.mem_cons_of_mem _ (List.mem_append_left _ (List.mem_of_getElem? (i := 3) rfl)))) rfl hY.1 hP hD hS hA (fun _ => rfl) (by decide) (by decide) (Nat.le_of_ble_eq_true rfl) (Nat.le_of_ble_eq_true rfl) (Nat.le_of_ble_eq_true rfl) dX0_init_8 (fun q1 cA H hK hP hD hS => ?_)
  obtain rfl : cA = G.2.1 := Sy.cls hK hY.1 (i := 1) (j := 0) rfl rfl (by decide)
  rw [show ([(h0, .inr (0, [.null, .null, .int 0, .int 0, .int 0, .int 0]))] : va_W) ++ [(q1, .inl (G.2.1, 300, .inl (fun _ => 0)))] = ([(h0, .inr (0, [.null, .null, .int 0, .int 0, .int 0, .int 0]))] ++ ([(q1, .inl (G.2.1, 300, .inl (fun _ => 0)))]) : va_W) from by simp only [List.append_assoc]] at hP hD
  refine W.widen (k := 1) (n := 300) (Nat.le_of_ble_eq_true rfl) (Nat.le_of_ble_eq_true rfl) ?_
  refine va_putF (D := G.1) (ci := 0) (v := .ref q1) (ty := .array .int) (C := RX0) (T := TX0) (N := 6) hx hb hts (fun w h => (List.mem_cons_of_mem _ (List.mem_append_right _ h))) tyX0 tyX0_ok nmX0 hown hY.1 hP hD hS 0 rfl rfl 0 (by decide) (hts (.fieldLink RX0 9 "ReservoirReed$Chain" "items" "[I") (List.mem_cons_of_mem _ (List.mem_append_left _ (List.mem_of_getElem? (i := 4) rfl)))) (fun _ h9 => h9) rfl hin rfl (by decide +kernel) rfl rfl (Nat.le_of_ble_eq_true rfl) dX0_init_10 (fun H locs hP hD hS => ?_)
  have hP : va_P G.1 vwCl ([(h0, .inr (0, [.ref q1, .null, .int 0, .int 0, .int 0, .int 0]))] ++ ([(q1, .inl (G.2.1, 300, .inl (fun _ => 0)))]) : va_W) H := hP
  have hD : va_D A ([(h0, .inr (0, [.ref q1, .null, .int 0, .int 0, .int 0, .int 0]))] ++ ([(q1, .inl (G.2.1, 300, .inl (fun _ => 0)))]) : va_W) := hD
  refine lv_aload_n hx hb dX0_init_13 rfl (lv_at hl 0 rfl) ?_
  refine lv_sipush (v := 300) hx hb dX0_init_14 (by decide) ?_
  refine va_newa (atype := .int) (ty := .int) (N' := 300) (a0 := (300, .inl (fun _ => 0))) hx hb (hts (.arrayClass .int) (List.mem_cons_of_mem _ (List.mem_append_left _ (List.mem_of_getElem? (i := 3) rfl)))) rfl hY.1 hP hD hS hA (fun _ => rfl) (by decide) (by decide) (Nat.le_of_ble_eq_true rfl) (Nat.le_of_ble_eq_true rfl) (Nat.le_of_ble_eq_true rfl) dX0_init_17 (fun q2 cA H hK hP hD hS => ?_)
  obtain rfl : cA = G.2.1 := Sy.cls hK hY.1 (i := 1) (j := 0) rfl rfl (by decide)
  rw [show ([(h0, .inr (0, [.ref q1, .null, .int 0, .int 0, .int 0, .int 0]))] ++ ([(q1, .inl (G.2.1, 300, .inl (fun _ => 0)))]) : va_W) ++ [(q2, .inl (G.2.1, 300, .inl (fun _ => 0)))] = ([(h0, .inr (0, [.ref q1, .null, .int 0, .int 0, .int 0, .int 0]))] ++ ([(q1, .inl (G.2.1, 300, .inl (fun _ => 0)))] ++ ([(q2, .inl (G.2.1, 300, .inl (fun _ => 0)))])) : va_W) from by simp only [List.append_assoc]] at hP hD
  refine W.widen (k := 2) (n := 600) (Nat.le_of_ble_eq_true rfl) (Nat.le_of_ble_eq_true rfl) ?_
  refine va_putF (D := G.1) (ci := 0) (v := .ref q2) (ty := .array .int) (C := RX0) (T := TX0) (N := 6) hx hb hts (fun w h => (List.mem_cons_of_mem _ (List.mem_append_right _ h))) tyX0 tyX0_ok nmX0 hown hY.1 hP hD hS 0 rfl rfl 1 (by decide) (hts (.fieldLink RX0 15 "ReservoirReed$Chain" "positions" "[I") (List.mem_cons_of_mem _ (List.mem_append_left _ (List.mem_of_getElem? (i := 5) rfl)))) (fun _ h9 => h9) rfl hin rfl (by decide +kernel) rfl rfl (Nat.le_of_ble_eq_true rfl) dX0_init_19 (fun H locs hP hD hS => ?_)
  have hP : va_P G.1 vwCl ([(h0, .inr (0, [.ref q1, .ref q2, .int 0, .int 0, .int 0, .int 0]))] ++ ([(q1, .inl (G.2.1, 300, .inl (fun _ => 0)))] ++ ([(q2, .inl (G.2.1, 300, .inl (fun _ => 0)))])) : va_W) H := hP
  have hD : va_D A ([(h0, .inr (0, [.ref q1, .ref q2, .int 0, .int 0, .int 0, .int 0]))] ++ ([(q1, .inl (G.2.1, 300, .inl (fun _ => 0)))] ++ ([(q2, .inl (G.2.1, 300, .inl (fun _ => 0)))])) : va_W) := hD
  exact ct_vret (ad := (cat2 1 (fun _ => h0) (cat2 1 (fun _ => q1) (fun _ => q2)))) hx hb hr hlk hS hP hD (by rfl) rfl dX0_init_22
