set_option maxHeartbeats 4000000 in
set_option maxRecDepth 100000 in
theorem k_X0_startAgain (l : Launch) (G : GT) (ad : Nat → Nat) (o : Nat) (r : ChaT) (k2 : Int32) : Wr l yX0_startAgain wsX0_startAgain { frames := 0, cells := 0, slots := 0, locals := 0 } G (wCha G ad o r) (wCha G ad o (chaStart k2 r)) [.ref (ad o), .int k2] none := by
  intro sz
  obtain ⟨w, sx, ex, aw, it, po⟩ := r
  refine Met.ofW (cc := cX0_startAgain) (maxL := 2) (ret := none) (by decide) rfl ?_
  intro p e s m args below meth c s₁ B hml hv
  obtain ⟨rfl, hsz, hP, hY, hD0⟩ := hv
  subst hsz
  have hD := hD0.self (sz := s.heap.size)
  generalize hAe : va_A (wCha G ad o (w, sx, ex, aw, it, po)) s.heap.size = A at hD ⊢
  have hA : ∀ q : Nat, s.heap.size ≤ q → A q := fun q h => by rw [← hAe]; exact Or.inr h
  have hS : va_S A s.heap s.heap [] := va_S.rf
  have hx := B.exec
  have hb := B.bytes
  have hr := B.returns
  have hts := atoms_spec (ws := wsX0_startAgain) B.pre
  have hown : s.vm.findClass RX0 = some m.cls := findClass_of_methodNamed B.named
  have hlk := B.notSynchronized
  have CF : CallFix p m c cX0_startAgain 2 s _ wsX0_startAgain RX0 := ⟨hx, hb, hml, hown, hts⟩
  have hiX0 : ∀ w ∈ wsX00, w ∈ wsX0_startAgain := fun w h => (List.mem_cons_of_mem _ (List.mem_append_right _ h))
  have kf18 := hts (.fieldLink RX0 18 "ReservoirReed$Chain" "window" "I") (List.mem_cons_of_mem _ (List.mem_append_left _ (List.mem_of_getElem? (i := 0) rfl)))
  have kf22 := hts (.fieldLink RX0 22 "ReservoirReed$Chain" "start" "I") (List.mem_cons_of_mem _ (List.mem_append_left _ (List.mem_of_getElem? (i := 1) rfl)))
  have kf25 := hts (.fieldLink RX0 25 "ReservoirReed$Chain" "end" "I") (List.mem_cons_of_mem _ (List.mem_append_left _ (List.mem_of_getElem? (i := 2) rfl)))
  have kf28 := hts (.fieldLink RX0 28 "ReservoirReed$Chain" "awaited" "I") (List.mem_cons_of_mem _ (List.mem_append_left _ (List.mem_of_getElem? (i := 3) rfl)))
  have hl := lv_entry ([.ref (ad o), .int k2]) (n := 2) (Nat.le_of_ble_eq_true rfl)
  rw [lg_entry_eq]
  generalize (lg_sl ([.ref (ad o), .int k2]) ++ List.replicate (2 - (lg_sl ([.ref (ad o), .int k2])).length) Slot.unset).toArray = ls at hl ⊢
  have hl : lv_has ls 2 [(0, .ref (ad o)), (1, .int k2)] := hl
  refine lv_aload_n hx hb dX0_startAgain_0 rfl (lv_at hl 0 rfl) ?_
  refine lv_iload_n hx hb dX0_startAgain_1 rfl (lv_at hl 1 rfl) ?_
  refine va_put (D := G.1) (ci := 0) (v := .int k2) (ty := .int) (C := RX0) (T := TX0) (N := 6) hx hb hts hiX0 tyX0 tyX0_ok nmX0 hown hY.1 hP hD hS 0 rfl rfl 2 (by decide) kf18 (fun _ h9 => h9) rfl (by decide +kernel) rfl rfl (Nat.le_of_ble_eq_true rfl) dX0_startAgain_2 (fun H locs hP hD hS => ?_)
  have hP : va_P G.1 vwCl (wCha G ad o (k2, sx, ex, aw, it, po)) H := hP
  have hD : va_D A (wCha G ad o (k2, sx, ex, aw, it, po)) := hD
  refine lv_aload_n hx hb dX0_startAgain_5 rfl (lv_at hl 0 rfl) ?_
  refine lv_iconst (v := 0) hx hb dX0_startAgain_6 (by decide) ?_
  refine va_put (D := G.1) (ci := 0) (v := .int 0) (ty := .int) (C := RX0) (T := TX0) (N := 6) hx hb hts hiX0 tyX0 tyX0_ok nmX0 hown hY.1 hP hD hS 0 rfl rfl 3 (by decide) kf22 (fun _ h9 => h9) rfl (by decide +kernel) rfl rfl (Nat.le_of_ble_eq_true rfl) dX0_startAgain_7 (fun H locs hP hD hS => ?_)
  have hP : va_P G.1 vwCl (wCha G ad o (k2, 0, ex, aw, it, po)) H := hP
  have hD : va_D A (wCha G ad o (k2, 0, ex, aw, it, po)) := hD
  refine lv_aload_n hx hb dX0_startAgain_10 rfl (lv_at hl 0 rfl) ?_
  refine lv_iconst (v := 0) hx hb dX0_startAgain_11 (by decide) ?_
  refine va_put (D := G.1) (ci := 0) (v := .int 0) (ty := .int) (C := RX0) (T := TX0) (N := 6) hx hb hts hiX0 tyX0 tyX0_ok nmX0 hown hY.1 hP hD hS 0 rfl rfl 4 (by decide) kf25 (fun _ h9 => h9) rfl (by decide +kernel) rfl rfl (Nat.le_of_ble_eq_true rfl) dX0_startAgain_12 (fun H locs hP hD hS => ?_)
  have hP : va_P G.1 vwCl (wCha G ad o (k2, 0, 0, aw, it, po)) H := hP
  have hD : va_D A (wCha G ad o (k2, 0, 0, aw, it, po)) := hD
  refine lv_aload_n hx hb dX0_startAgain_15 rfl (lv_at hl 0 rfl) ?_
  refine lv_iconst (v := 0) hx hb dX0_startAgain_16 (by decide) ?_
  refine va_put (D := G.1) (ci := 0) (v := .int 0) (ty := .int) (C := RX0) (T := TX0) (N := 6) hx hb hts hiX0 tyX0 tyX0_ok nmX0 hown hY.1 hP hD hS 0 rfl rfl 5 (by decide) kf28 (fun _ h9 => h9) rfl (by decide +kernel) rfl rfl (Nat.le_of_ble_eq_true rfl) dX0_startAgain_17 (fun H locs hP hD hS => ?_)
  have hP : va_P G.1 vwCl (wCha G ad o (k2, 0, 0, 0, it, po)) H := hP
  have hD : va_D A (wCha G ad o (k2, 0, 0, 0, it, po)) := hD
  exact wr_vret hx hb hr hlk hS hP (by first | with_reducible rfl | (simp only [chaStart, sld_eq, ↓reduceIte]; done)) dX0_startAgain_20

set_option maxHeartbeats 4000000 in
set_option maxRecDepth 100000 in
theorem k_X0_append (l : Launch) (G : GT) (ad : Nat → Nat) (o : Nat) (r : ChaT) (ia pa sa : Int32) : Wr l yX0_append wsX0_append { frames := 1, cells := 0, slots := 0, locals := 22 } G (wCha G ad o r) (wCha G ad o (chaApp r ia pa sa)) [.ref (ad o), .int ia, .int pa, .int sa] none := by
  intro sz
  obtain ⟨w, sx, ex, aw, it, po⟩ := r
  refine Met.ofW (cc := cX0_append) (maxL := 4) (ret := none) (by decide) rfl ?_
  intro p e s m args below meth c s₁ B hml hv
  obtain ⟨rfl, hsz, hP, hY, hD0⟩ := hv
  subst hsz
  have hD := hD0.self (sz := s.heap.size)
  generalize hAe : va_A (wCha G ad o (w, sx, ex, aw, it, po)) s.heap.size = A at hD ⊢
  have hA : ∀ q : Nat, s.heap.size ≤ q → A q := fun q h => by rw [← hAe]; exact Or.inr h
  have hS : va_S A s.heap s.heap [] := va_S.rf
  have hx := B.exec
  have hb := B.bytes
  have hr := B.returns
  have hts := atoms_spec (ws := wsX0_append) B.pre
  have hown : s.vm.findClass RX0 = some m.cls := findClass_of_methodNamed B.named
  have hlk := B.notSynchronized
  have CF : CallFix p m c cX0_append 4 s _ wsX0_append RX0 := ⟨hx, hb, hml, hown, hts⟩
  have hiX0 : ∀ w ∈ wsX00, w ∈ wsX0_append := fun w h => (List.mem_cons_of_mem _ (List.mem_append_right _ h))
  have kf9 := hts (.fieldLink RX0 9 "ReservoirReed$Chain" "items" "[I") (List.mem_cons_of_mem _ (List.mem_append_left _ (List.mem_of_getElem? (i := 0) rfl)))
  have kf25 := hts (.fieldLink RX0 25 "ReservoirReed$Chain" "end" "I") (List.mem_cons_of_mem _ (List.mem_append_left _ (List.mem_of_getElem? (i := 1) rfl)))
  have knRX6 := hts (.initialized RX6) (List.mem_cons_of_mem _ (List.mem_append_left _ (List.mem_of_getElem? (i := 6) rfl)))
  have ks_X6_put := hts (.static yX6_put) (List.mem_cons_of_mem _ (List.mem_append_left _ (List.mem_of_getElem? (i := 5) rfl)))
  have kf15 := hts (.fieldLink RX0 15 "ReservoirReed$Chain" "positions" "[I") (List.mem_cons_of_mem _ (List.mem_append_left _ (List.mem_of_getElem? (i := 2) rfl)))
  have kf18 := hts (.fieldLink RX0 18 "ReservoirReed$Chain" "window" "I") (List.mem_cons_of_mem _ (List.mem_append_left _ (List.mem_of_getElem? (i := 3) rfl)))
  have ks_X6_remainder := hts (.static yX6_remainder) (List.mem_cons_of_mem _ (List.mem_append_left _ (List.mem_of_getElem? (i := 8) rfl)))
  have kf28 := hts (.fieldLink RX0 28 "ReservoirReed$Chain" "awaited" "I") (List.mem_cons_of_mem _ (List.mem_append_left _ (List.mem_of_getElem? (i := 4) rfl)))
  have hl := lv_entry ([.ref (ad o), .int ia, .int pa, .int sa]) (n := 4) (Nat.le_of_ble_eq_true rfl)
  rw [lg_entry_eq]
  generalize (lg_sl ([.ref (ad o), .int ia, .int pa, .int sa]) ++ List.replicate (4 - (lg_sl ([.ref (ad o), .int ia, .int pa, .int sa])).length) Slot.unset).toArray = ls at hl ⊢
  have hl : lv_has ls 4 [(0, .ref (ad o)), (1, .int ia), (2, .int pa), (3, .int sa)] := hl
  refine lv_aload_n hx hb dX0_append_0 rfl (lv_at hl 0 rfl) ?_
  refine va_get (D := G.1) (ci := 0) (v := .ref (ad (o+1))) (C := RX0) (T := TX0) (N := 6) hx hb hts hiX0 hown hY.1 hP 0 rfl rfl 0 (by decide) kf9 (fun _ h9 => h9) rfl dX0_append_1 ?_
  refine lv_aload_n hx hb dX0_append_4 rfl (lv_at hl 0 rfl) ?_
  refine va_get (D := G.1) (ci := 0) (v := .int ex) (C := RX0) (T := TX0) (N := 6) hx hb hts hiX0 hown hY.1 hP 0 rfl rfl 4 (by decide) kf25 (fun _ h9 => h9) rfl dX0_append_5 ?_
  refine lv_iload_n hx hb dX0_append_8 rfl (lv_at hl 1 rfl) ?_
  refine wrSN (List.take 1 (wCha G ad o (w, sx, ex, aw, it, po))) [(ad (o+1), .inl (G.2.1, 300, .inl it))] (List.drop 2 (wCha G ad o (w, sx, ex, aw, it, po))) [(ad (o+1), .inl (G.2.1, 300, .inl (put_ 300 it ex ia)))] (As := [.ref (ad (o+1)), .int ex, .int ia]) (rest := []) CF (k_X6_put l G 300 (ad (o+1)) it ex ia (by decide)) ⟨va_cnB 3 hts gX0_append_X6_put_n48 rfl rfl rfl (hY.2.1 (.methodLinkNest RX0 48 yX6_put RX6) (List.mem_of_getElem? (i := 23) rfl)) knRX6 (by decide +kernel) ⟨Nat.le_of_ble_eq_true rfl, Nat.le_of_ble_eq_true rfl⟩, ks_X6_put, trivial⟩ hP hD hS hA hY (fst_arr _ _ _) rfl hl.1 rfl (lv_room (Nat.le_of_ble_eq_true rfl)) dX0_append_9 ⟨Nat.zero_le _, Nat.zero_le _⟩ (fun H locs hP hD hS => ?_)
  have hP : va_P G.1 vwCl (wCha G ad o (w, sx, ex, aw, put_ 300 it ex ia, po)) H := hP
  have hD : va_D A (wCha G ad o (w, sx, ex, aw, put_ 300 it ex ia, po)) := hD
  refine lv_aload_n hx hb dX0_append_12 rfl (lv_at hl 0 rfl) ?_
  refine va_get (D := G.1) (ci := 0) (v := .ref (ad (o+2))) (C := RX0) (T := TX0) (N := 6) hx hb hts hiX0 hown hY.1 hP 0 rfl rfl 1 (by decide) kf15 (fun _ h9 => h9) rfl dX0_append_13 ?_
  refine lv_aload_n hx hb dX0_append_16 rfl (lv_at hl 0 rfl) ?_
  refine va_get (D := G.1) (ci := 0) (v := .int ex) (C := RX0) (T := TX0) (N := 6) hx hb hts hiX0 hown hY.1 hP 0 rfl rfl 4 (by decide) kf25 (fun _ h9 => h9) rfl dX0_append_17 ?_
  refine lv_iload_n hx hb dX0_append_20 rfl (lv_at hl 2 rfl) ?_
  refine wrSN (List.take 2 (wCha G ad o (w, sx, ex, aw, put_ 300 it ex ia, po))) [(ad (o+2), .inl (G.2.1, 300, .inl po))] [] [(ad (o+2), .inl (G.2.1, 300, .inl (put_ 300 po ex pa)))] (As := [.ref (ad (o+2)), .int ex, .int pa]) (rest := []) CF (k_X6_put l G 300 (ad (o+2)) po ex pa (by decide)) ⟨va_cnB 3 hts gX0_append_X6_put_n48 rfl rfl rfl (hY.2.1 (.methodLinkNest RX0 48 yX6_put RX6) (List.mem_of_getElem? (i := 23) rfl)) knRX6 (by decide +kernel) ⟨Nat.le_of_ble_eq_true rfl, Nat.le_of_ble_eq_true rfl⟩, ks_X6_put, trivial⟩ hP hD hS hA hY (fst_arr _ _ _) rfl hl.1 rfl (lv_room (Nat.le_of_ble_eq_true rfl)) dX0_append_21 ⟨Nat.zero_le _, Nat.zero_le _⟩ (fun H locs hP hD hS => ?_)
  have hP : va_P G.1 vwCl (wCha G ad o (w, sx, ex, aw, put_ 300 it ex ia, put_ 300 po ex pa)) H := hP
  have hD : va_D A (wCha G ad o (w, sx, ex, aw, put_ 300 it ex ia, put_ 300 po ex pa)) := hD
  refine lv_aload_n hx hb dX0_append_24 rfl (lv_at hl 0 rfl) ?_
  refine lv_dup hx hb dX0_append_25 rfl ?_
  refine va_get (D := G.1) (ci := 0) (v := .int ex) (C := RX0) (T := TX0) (N := 6) hx hb hts hiX0 hown hY.1 hP 0 rfl rfl 4 (by decide) kf25 (fun _ h9 => h9) rfl dX0_append_26 ?_
  refine lv_iconst (v := 1) hx hb dX0_append_29 (by decide) ?_
  refine lv_iadd hx hb dX0_append_30 ?_
  refine va_put (D := G.1) (ci := 0) (v := .int (ex + 1)) (ty := .int) (C := RX0) (T := TX0) (N := 6) hx hb hts hiX0 tyX0 tyX0_ok nmX0 hown hY.1 hP hD hS 0 rfl rfl 4 (by decide) kf25 (fun _ h9 => h9) rfl (by decide +kernel) rfl rfl (Nat.le_of_ble_eq_true rfl) dX0_append_31 (fun H locs hP hD hS => ?_)
  have hP : va_P G.1 vwCl (wCha G ad o (w, sx, ex + 1, aw, put_ 300 it ex ia, put_ 300 po ex pa)) H := hP
  have hD : va_D A (wCha G ad o (w, sx, ex + 1, aw, put_ 300 it ex ia, put_ 300 po ex pa)) := hD
  refine lv_aload_n hx hb dX0_append_34 rfl (lv_at hl 0 rfl) ?_
  refine lv_iload_n hx hb dX0_append_35 rfl (lv_at hl 2 rfl) ?_
  refine lv_iconst (v := 1) hx hb dX0_append_36 (by decide) ?_
  refine lv_iadd hx hb dX0_append_37 ?_
  refine lv_iload_n hx hb dX0_append_38 rfl (lv_at hl 3 rfl) ?_
  refine lv_aload_n hx hb dX0_append_39 rfl (lv_at hl 0 rfl) ?_
  refine va_get (D := G.1) (ci := 0) (v := .int w) (C := RX0) (T := TX0) (N := 6) hx hb hts hiX0 hown hY.1 hP 0 rfl rfl 2 (by decide) kf18 (fun _ h9 => h9) rfl dX0_append_40 ?_
  refine rdSN (w0 := ([] : va_W)) (As := [.int sa, .int w]) (rest := [.int (pa + 1), .ref (ad o)]) CF (k_X6_remainder l G sa w) ⟨va_cnB 2 hts gX0_append_X6_remainder_n37 rfl rfl rfl (hY.2.1 (.methodLinkNest RX0 37 yX6_remainder RX6) (List.mem_of_getElem? (i := 21) rfl)) knRX6 (by decide +kernel) ⟨Nat.le_of_ble_eq_true rfl, Nat.le_of_ble_eq_true rfl⟩, ks_X6_remainder, trivial⟩ va_P_nil hY rfl hl.1 rfl (lv_room (Nat.le_of_ble_eq_true rfl)) dX0_append_43 ⟨Nat.zero_le _, Nat.zero_le _⟩ ?_
  refine lv_iadd hx hb dX0_append_46 ?_
  refine va_put (D := G.1) (ci := 0) (v := .int ((pa + 1) + (rem_ sa w))) (ty := .int) (C := RX0) (T := TX0) (N := 6) hx hb hts hiX0 tyX0 tyX0_ok nmX0 hown hY.1 hP hD hS 0 rfl rfl 5 (by decide) kf28 (fun _ h9 => h9) rfl (by decide +kernel) rfl rfl (Nat.le_of_ble_eq_true rfl) dX0_append_47 (fun H locs hP hD hS => ?_)
  have hP : va_P G.1 vwCl (wCha G ad o (w, sx, ex + 1, (pa + 1) + (rem_ sa w), put_ 300 it ex ia, put_ 300 po ex pa)) H := hP
  have hD : va_D A (wCha G ad o (w, sx, ex + 1, (pa + 1) + (rem_ sa w), put_ 300 it ex ia, put_ 300 po ex pa)) := hD
  exact wr_vret hx hb hr hlk hS hP (by first | with_reducible rfl | (simp only [chaApp, sld_eq, ↓reduceIte]; done)) dX0_append_50

set_option maxHeartbeats 4000000 in
set_option maxRecDepth 100000 in
theorem k_X0_length (l : Launch) (G : GT) (ad : Nat → Nat) (o : Nat) (r : ChaT) : Rd l yX0_length wsX0_length { frames := 0, cells := 0, slots := 0, locals := 0 } G (wCha G ad o r) [.ref (ad o)] (.int (chaLen r)) := by
  refine Met.ofW (cc := cX0_length) (maxL := 1) (ret := (some .int)) (by decide) rfl ?_
  intro p e s m args below meth c s₁ B hml hv
  obtain ⟨rfl, hP, hY⟩ := hv
  have hx := B.exec
  have hb := B.bytes
  have hr := B.returns
  have hts := atoms_spec (ws := wsX0_length) B.pre
  have hown : s.vm.findClass RX0 = some m.cls := findClass_of_methodNamed B.named
  have hlk := B.notSynchronized
  have CF : CallFix p m c cX0_length 1 s _ wsX0_length RX0 := ⟨hx, hb, hml, hown, hts⟩
  have hiX0 : ∀ w ∈ wsX00, w ∈ wsX0_length := fun w h => (List.mem_cons_of_mem _ (List.mem_append_right _ h))
  have kf25 := hts (.fieldLink RX0 25 "ReservoirReed$Chain" "end" "I") (List.mem_cons_of_mem _ (List.mem_append_left _ (List.mem_of_getElem? (i := 0) rfl)))
  have kf22 := hts (.fieldLink RX0 22 "ReservoirReed$Chain" "start" "I") (List.mem_cons_of_mem _ (List.mem_append_left _ (List.mem_of_getElem? (i := 1) rfl)))
  have hl := lv_entry ([.ref (ad o)]) (n := 1) (Nat.le_of_ble_eq_true rfl)
  rw [lg_entry_eq]
  generalize (lg_sl ([.ref (ad o)]) ++ List.replicate (1 - (lg_sl ([.ref (ad o)])).length) Slot.unset).toArray = ls at hl ⊢
  have hl : lv_has ls 1 [(0, .ref (ad o))] := hl
  refine lv_aload_n hx hb dX0_length_0 rfl (lv_at hl 0 rfl) ?_
  refine va_get (D := G.1) (ci := 0) (v := .int r.2.2.1) (C := RX0) (T := TX0) (N := 6) hx hb hts hiX0 hown hY.1 hP 0 rfl rfl 4 (by decide) kf25 (fun _ h9 => h9) rfl dX0_length_1 ?_
  refine lv_aload_n hx hb dX0_length_4 rfl (lv_at hl 0 rfl) ?_
  refine va_get (D := G.1) (ci := 0) (v := .int r.2.1) (C := RX0) (T := TX0) (N := 6) hx hb hts hiX0 hown hY.1 hP 0 rfl rfl 3 (by decide) kf22 (fun _ h9 => h9) rfl dX0_length_5 ?_
  refine lv_isub hx hb dX0_length_8 ?_
  exact rd_iret hx hb hr hlk (by first | with_reducible rfl | (simp only [chaLen, sld_eq, ↓reduceIte]; done)) dX0_length_9

set_option maxHeartbeats 4000000 in
set_option maxRecDepth 100000 in
theorem k_X0_give (l : Launch) (G : GT) (ad : Nat → Nat) (o : Nat) (r : ChaT) (ia pa fa sa : Int32) : Wr l yX0_give wsX0_give { frames := 2, cells := 0, slots := 0, locals := 45 } G (wCha G ad o r) (wCha G ad o (chaGive r ia pa fa sa)) [.ref (ad o), .int ia, .int pa, .int fa, .int sa] none := by
  intro sz
  obtain ⟨w, sx, ex, aw, it, po⟩ := r
  refine Met.ofW (cc := cX0_give) (maxL := 5) (ret := none) (by decide) rfl ?_
  intro p e s m args below meth c s₁ B hml hv
  obtain ⟨rfl, hsz, hP, hY, hD0⟩ := hv
  subst hsz
  have hD := hD0.self (sz := s.heap.size)
  generalize hAe : va_A (wCha G ad o (w, sx, ex, aw, it, po)) s.heap.size = A at hD ⊢
  have hA : ∀ q : Nat, s.heap.size ≤ q → A q := fun q h => by rw [← hAe]; exact Or.inr h
  have hS : va_S A s.heap s.heap [] := va_S.rf
  have hx := B.exec
  have hb := B.bytes
  have hr := B.returns
  have hts := atoms_spec (ws := wsX0_give) B.pre
  have hown : s.vm.findClass RX0 = some m.cls := findClass_of_methodNamed B.named
  have hlk := B.notSynchronized
  have CF : CallFix p m c cX0_give 5 s _ wsX0_give RX0 := ⟨hx, hb, hml, hown, hts⟩
  have hiX0 : ∀ w ∈ wsX00, w ∈ wsX0_give := fun w h => (List.mem_cons_of_mem _ (List.mem_append_right _ h))
  have kf18 := hts (.fieldLink RX0 18 "ReservoirReed$Chain" "window" "I") (List.mem_cons_of_mem _ (List.mem_append_left _ (List.mem_of_getElem? (i := 0) rfl)))
  have km1 := hts (.methodLink RX0 31 Lib.Math.min.name) (List.mem_cons_of_mem _ (List.mem_append_left _ (List.mem_of_getElem? (i := 1) rfl)))
  have km2 := hts (.static Lib.Math.min.name) (List.mem_cons_of_mem _ (List.mem_append_left _ (List.mem_of_getElem? (i := 2) rfl)))
  have km3 := hts (.initialized "java/lang/Math") (List.mem_cons_of_mem _ (List.mem_append_left _ (List.mem_of_getElem? (i := 3) rfl)))
  have km4 := hts (.code Lib.Math.min.name Lib.Math.min.code 2 (some .int)) (List.mem_cons_of_mem _ (List.mem_append_left _ (List.mem_of_getElem? (i := 4) rfl)))
  have knRX6 := hts (.initialized RX6) (List.mem_cons_of_mem _ (List.mem_append_left _ (List.mem_of_getElem? (i := 10) rfl)))
  have ks_X6_remainder := hts (.static yX6_remainder) (List.mem_cons_of_mem _ (List.mem_append_left _ (List.mem_of_getElem? (i := 9) rfl)))
  have kf28 := hts (.fieldLink RX0 28 "ReservoirReed$Chain" "awaited" "I") (List.mem_cons_of_mem _ (List.mem_append_left _ (List.mem_of_getElem? (i := 7) rfl)))
  have kf22 := hts (.fieldLink RX0 22 "ReservoirReed$Chain" "start" "I") (List.mem_cons_of_mem _ (List.mem_append_left _ (List.mem_of_getElem? (i := 5) rfl)))
  have kf25 := hts (.fieldLink RX0 25 "ReservoirReed$Chain" "end" "I") (List.mem_cons_of_mem _ (List.mem_append_left _ (List.mem_of_getElem? (i := 6) rfl)))
  have kf15 := hts (.fieldLink RX0 15 "ReservoirReed$Chain" "positions" "[I") (List.mem_cons_of_mem _ (List.mem_append_left _ (List.mem_of_getElem? (i := 8) rfl)))
  have ks_X6_at := hts (.static yX6_at) (List.mem_cons_of_mem _ (List.mem_append_left _ (List.mem_of_getElem? (i := 20) rfl)))
  have hl := lv_entry ([.ref (ad o), .int ia, .int pa, .int fa, .int sa]) (n := 5) (Nat.le_of_ble_eq_true rfl)
  rw [lg_entry_eq]
  generalize (lg_sl ([.ref (ad o), .int ia, .int pa, .int fa, .int sa]) ++ List.replicate (5 - (lg_sl ([.ref (ad o), .int ia, .int pa, .int fa, .int sa])).length) Slot.unset).toArray = ls at hl ⊢
  have hl : lv_has ls 5 [(0, .ref (ad o)), (1, .int ia), (2, .int pa), (3, .int fa), (4, .int sa)] := hl
  refine lv_iload_n hx hb dX0_give_0 rfl (lv_at hl 3 rfl) ?_
  refine lv_iload_n hx hb dX0_give_1 rfl (lv_at hl 2 rfl) ?_
  refine lv_aload_n hx hb dX0_give_2 rfl (lv_at hl 0 rfl) ?_
  refine va_get (D := G.1) (ci := 0) (v := .int w) (C := RX0) (T := TX0) (N := 6) hx hb hts hiX0 hown hY.1 hP 0 rfl rfl 2 (by decide) kf18 (fun _ h9 => h9) rfl dX0_give_3 ?_
  refine va_mmin hx hb (hml.trans hl.1.symm) (index := 31) hown km1 km2 km3 km4 (Nat.le_of_ble_eq_true rfl) (Nat.le_of_ble_eq_true rfl) (Nat.zero_le _) (Nat.zero_le _) dX0_give_6 ?_
  refine rdSN (w0 := ([] : va_W)) (As := [.int fa, .int (if w < pa then w else pa)]) (rest := []) CF (k_X6_remainder l G fa (if w < pa then w else pa)) ⟨va_cnB 2 hts gX0_give_X6_remainder_n37 rfl rfl rfl (hY.2.1 (.methodLinkNest RX0 37 yX6_remainder RX6) (List.mem_of_getElem? (i := 21) rfl)) knRX6 (by decide +kernel) ⟨Nat.le_of_ble_eq_true rfl, Nat.le_of_ble_eq_true rfl⟩, ks_X6_remainder, trivial⟩ va_P_nil hY rfl hl.1 rfl (lv_room (Nat.le_of_ble_eq_true rfl)) dX0_give_9 ⟨Nat.zero_le _, Nat.zero_le _⟩ ?_
  refine lv_if_ne (tgt := 36) hx hb dX0_give_12 (by decide) (fun h12_1 => ?_) (fun h12_1 => ?_)
  · refine lv_iload_n hx hb dX0_give_36 rfl (lv_at hl 2 rfl) ?_
    refine lv_aload_n hx hb dX0_give_37 rfl (lv_at hl 0 rfl) ?_
    refine va_get (D := G.1) (ci := 0) (v := .int aw) (C := RX0) (T := TX0) (N := 6) hx hb hts hiX0 hown hY.1 hP 0 rfl rfl 5 (by decide) kf28 (fun _ h9 => h9) rfl dX0_give_38 ?_
    refine lv_icmp_ne (tgt := 52) hx hb dX0_give_41 (by decide) (fun h41_2 => ?_) (fun h41_2 => ?_)
    · have loop1 : ∀ (fu : Nat) (j : Int32), (ex.toInt - j.toInt).toNat < fu → chL pa w ex po fu j = chL pa w ex po ((ex.toInt - (sx).toInt).toNat + 1) sx → ∀ (H : Heap) (locs : List Loc) (ls : Array Slot), va_P G.1 vwCl (wCha G ad o (w, j, ex, aw, it, po)) H → va_D A (wCha G ad o (w, j, ex, aw, it, po)) → va_S A s.heap H locs → lv_has ls 5 [(0, .ref (ad o)), (1, .int ia), (2, .int pa), (3, .int fa), (4, .int sa)] → W p l e (headSpec wsX0_give { frames := 2, cells := 0, slots := 0, locals := 45 }).room s m ([.ref (ad o), .int ia, .int pa, .int fa, .int sa] : List Value).toArray below meth c H locs 0 0 (MQ below (WQ none G (wCha G ad o (chaGive (w, sx, ex, aw, it, po) ia pa fa sa)) A) ([.ref (ad o), .int ia, .int pa, .int fa, .int sa] : List Value).toArray s 0 0 A) (F0 m 52 ls []) := by
        intro fu
        induction fu with
        | zero => intro j hm; exact absurd hm (Nat.not_lt_zero _)
        | succ fu ih =>
          intro j hm hR1  H locs ls hP hD hS hl
          refine lv_aload_n hx hb dX0_give_52 rfl (lv_at hl 0 rfl) ?_
          refine va_get (D := G.1) (ci := 0) (v := .int j) (C := RX0) (T := TX0) (N := 6) hx hb hts hiX0 hown hY.1 hP 0 rfl rfl 3 (by decide) kf22 (fun _ h9 => h9) rfl dX0_give_53 ?_
          refine lv_aload_n hx hb dX0_give_56 rfl (lv_at hl 0 rfl) ?_
          refine va_get (D := G.1) (ci := 0) (v := .int ex) (C := RX0) (T := TX0) (N := 6) hx hb hts hiX0 hown hY.1 hP 0 rfl rfl 4 (by decide) kf25 (fun _ h9 => h9) rfl dX0_give_57 ?_
          refine lv_icmp_ge (tgt := 96) hx hb dX0_give_60 (by decide) (fun h60_3 => ?_) (fun h60_3 => ?_)
          · exact wr_vret hx hb hr hlk hS hP (by first | (simp only [chaGive, chaCut, sld_eq, h12_1, h41_2, ↓reduceIte]; rw [← hR1]; simp only [chL, h60_3, ↓reduceIte]) | (rw [← hR1]; simp only [chL, h60_3, ↓reduceIte])) dX0_give_96
          · refine lv_aload_n hx hb dX0_give_63 rfl (lv_at hl 0 rfl) ?_
            refine va_get (D := G.1) (ci := 0) (v := .ref (ad (o+2))) (C := RX0) (T := TX0) (N := 6) hx hb hts hiX0 hown hY.1 hP 0 rfl rfl 1 (by decide) kf15 (fun _ h9 => h9) rfl dX0_give_64 ?_
            refine lv_aload_n hx hb dX0_give_67 rfl (lv_at hl 0 rfl) ?_
            refine va_get (D := G.1) (ci := 0) (v := .int j) (C := RX0) (T := TX0) (N := 6) hx hb hts hiX0 hown hY.1 hP 0 rfl rfl 3 (by decide) kf22 (fun _ h9 => h9) rfl dX0_give_68 ?_
            refine rdSN (w0 := [(ad (o+2), .inl (G.2.1, 300, .inl po))]) (As := [.ref (ad (o+2)), .int j]) (rest := []) CF (k_X6_at l G 300 (ad (o+2)) po j (by decide)) ⟨va_cnB 2 hts gX0_give_X6_at_n44 rfl rfl rfl (hY.2.1 (.methodLinkNest RX0 44 yX6_at RX6) (List.mem_of_getElem? (i := 22) rfl)) knRX6 (by decide +kernel) ⟨Nat.le_of_ble_eq_true rfl, Nat.le_of_ble_eq_true rfl⟩, ks_X6_at, trivial⟩ (hP.sub (ws' := [(ad (o+2), .inl (G.2.1, 300, .inl po))]) [2] rfl) hY rfl hl.1 rfl (lv_room (Nat.le_of_ble_eq_true rfl)) dX0_give_71 ⟨Nat.zero_le _, Nat.zero_le _⟩ ?_
            refine lv_iload_n hx hb dX0_give_74 rfl (lv_at hl 2 rfl) ?_
            refine lv_aload_n hx hb dX0_give_75 rfl (lv_at hl 0 rfl) ?_
            refine va_get (D := G.1) (ci := 0) (v := .int w) (C := RX0) (T := TX0) (N := 6) hx hb hts hiX0 hown hY.1 hP 0 rfl rfl 2 (by decide) kf18 (fun _ h9 => h9) rfl dX0_give_76 ?_
            refine lv_isub hx hb dX0_give_79 ?_
            refine lv_icmp_gt (tgt := 96) hx hb dX0_give_80 (by decide) (fun h80_4 => ?_) (fun h80_4 => ?_)
            · exact wr_vret hx hb hr hlk hS hP (by first | (simp only [chaGive, chaCut, sld_eq, h12_1, h41_2, ↓reduceIte]; rw [← hR1]; simp only [chL, h60_3, h80_4, ↓reduceIte]) | (rw [← hR1]; simp only [chL, h60_3, h80_4, ↓reduceIte])) dX0_give_96
            · refine lv_aload_n hx hb dX0_give_83 rfl (lv_at hl 0 rfl) ?_
              refine lv_dup hx hb dX0_give_84 rfl ?_
              refine va_get (D := G.1) (ci := 0) (v := .int j) (C := RX0) (T := TX0) (N := 6) hx hb hts hiX0 hown hY.1 hP 0 rfl rfl 3 (by decide) kf22 (fun _ h9 => h9) rfl dX0_give_85 ?_
              refine lv_iconst (v := 1) hx hb dX0_give_88 (by decide) ?_
              refine lv_iadd hx hb dX0_give_89 ?_
              refine va_put (D := G.1) (ci := 0) (v := .int (j + 1)) (ty := .int) (C := RX0) (T := TX0) (N := 6) hx hb hts hiX0 tyX0 tyX0_ok nmX0 hown hY.1 hP hD hS 0 rfl rfl 3 (by decide) kf22 (fun _ h9 => h9) rfl (by decide +kernel) rfl rfl (Nat.le_of_ble_eq_true rfl) dX0_give_90 (fun H locs hP hD hS => ?_)
              have hP : va_P G.1 vwCl (wCha G ad o (w, j + 1, ex, aw, it, po)) H := hP
              have hD : va_D A (wCha G ad o (w, j + 1, ex, aw, it, po)) := hD
              refine lv_goto (tgt := 52) hx hb dX0_give_93 (by decide) ?_
              exact ih (j + 1) (ms_up h60_3 hm) (by rw [← hR1]; simp only [chL, h60_3, h80_4, ↓reduceIte])  _ _ ls hP hD hS (lv_sub hl [0, 1, 2, 3, 4] rfl)
      exact loop1 _ sx (Nat.lt_succ_self _) rfl  _ _ ls hP hD hS (lv_sub hl [0, 1, 2, 3, 4] rfl)
    · refine lv_aload_n hx hb dX0_give_44 rfl (lv_at hl 0 rfl) ?_
      refine lv_iload_n hx hb dX0_give_45 rfl (lv_at hl 1 rfl) ?_
      refine lv_iload_n hx hb dX0_give_46 rfl (lv_at hl 2 rfl) ?_
      refine lv_iload hx hb dX0_give_47 (lv_at hl 4 rfl) ?_
      refine wrV [] (wCha G ad o (w, sx, ex, aw, it, po)) [] (wCha G ad o (chaApp (w, sx, ex, aw, it, po) ia pa sa)) (As := [.int ia, .int pa, .int sa]) (rest := []) CF (k_X0_append l G ad o (w, sx, ex, aw, it, po) ia pa sa) (cwV 3 hts gX0_give_X0_append rfl rfl rfl (by decide +kernel) ⟨Nat.le_of_ble_eq_true rfl, Nat.le_of_ble_eq_true rfl⟩) hP hD hS hA hY rfl rfl (fst_Cha _ _ _ _ _) rfl hl.1 rfl (lv_room (Nat.le_of_ble_eq_true rfl)) dX0_give_49 ⟨Nat.zero_le _, Nat.zero_le _⟩ (fun H locs hP hD hS => ?_)
      have hP : va_P G.1 vwCl (wCha G ad o (chaApp (w, sx, ex, aw, it, po) ia pa sa)) H := hP
      have hD : va_D A (wCha G ad o (chaApp (w, sx, ex, aw, it, po) ia pa sa)) := hD
      have loop2 : ∀ (fu : Nat) (j : Int32), (((chaApp (w, sx, ex, aw, it, po) ia pa sa).2.2.1).toInt - j.toInt).toNat < fu → chL pa ((chaApp (w, sx, ex, aw, it, po) ia pa sa).1) ((chaApp (w, sx, ex, aw, it, po) ia pa sa).2.2.1) ((chaApp (w, sx, ex, aw, it, po) ia pa sa).2.2.2.2.2) fu j = chL pa ((chaApp (w, sx, ex, aw, it, po) ia pa sa).1) ((chaApp (w, sx, ex, aw, it, po) ia pa sa).2.2.1) ((chaApp (w, sx, ex, aw, it, po) ia pa sa).2.2.2.2.2) ((((chaApp (w, sx, ex, aw, it, po) ia pa sa).2.2.1).toInt - (((chaApp (w, sx, ex, aw, it, po) ia pa sa).2.1)).toInt).toNat + 1) ((chaApp (w, sx, ex, aw, it, po) ia pa sa).2.1) → ∀ (H : Heap) (locs : List Loc) (ls : Array Slot), va_P G.1 vwCl (wCha G ad o ((chaApp (w, sx, ex, aw, it, po) ia pa sa).1, j, (chaApp (w, sx, ex, aw, it, po) ia pa sa).2.2.1, (chaApp (w, sx, ex, aw, it, po) ia pa sa).2.2.2.1, (chaApp (w, sx, ex, aw, it, po) ia pa sa).2.2.2.2.1, (chaApp (w, sx, ex, aw, it, po) ia pa sa).2.2.2.2.2)) H → va_D A (wCha G ad o ((chaApp (w, sx, ex, aw, it, po) ia pa sa).1, j, (chaApp (w, sx, ex, aw, it, po) ia pa sa).2.2.1, (chaApp (w, sx, ex, aw, it, po) ia pa sa).2.2.2.1, (chaApp (w, sx, ex, aw, it, po) ia pa sa).2.2.2.2.1, (chaApp (w, sx, ex, aw, it, po) ia pa sa).2.2.2.2.2)) → va_S A s.heap H locs → lv_has ls 5 [(0, .ref (ad o)), (1, .int ia), (2, .int pa), (3, .int fa), (4, .int sa)] → W p l e (headSpec wsX0_give { frames := 2, cells := 0, slots := 0, locals := 45 }).room s m ([.ref (ad o), .int ia, .int pa, .int fa, .int sa] : List Value).toArray below meth c H locs 0 0 (MQ below (WQ none G (wCha G ad o (chaGive (w, sx, ex, aw, it, po) ia pa fa sa)) A) ([.ref (ad o), .int ia, .int pa, .int fa, .int sa] : List Value).toArray s 0 0 A) (F0 m 52 ls []) := by
        intro fu
        induction fu with
        | zero => intro j hm; exact absurd hm (Nat.not_lt_zero _)
        | succ fu ih =>
          intro j hm hR2  H locs ls hP hD hS hl
          refine lv_aload_n hx hb dX0_give_52 rfl (lv_at hl 0 rfl) ?_
          refine va_get (D := G.1) (ci := 0) (v := .int j) (C := RX0) (T := TX0) (N := 6) hx hb hts hiX0 hown hY.1 hP 0 rfl rfl 3 (by decide) kf22 (fun _ h9 => h9) rfl dX0_give_53 ?_
          refine lv_aload_n hx hb dX0_give_56 rfl (lv_at hl 0 rfl) ?_
          refine va_get (D := G.1) (ci := 0) (v := .int ((chaApp (w, sx, ex, aw, it, po) ia pa sa).2.2.1)) (C := RX0) (T := TX0) (N := 6) hx hb hts hiX0 hown hY.1 hP 0 rfl rfl 4 (by decide) kf25 (fun _ h9 => h9) rfl dX0_give_57 ?_
          refine lv_icmp_ge (tgt := 96) hx hb dX0_give_60 (by decide) (fun h60_5 => ?_) (fun h60_5 => ?_)
          · exact wr_vret hx hb hr hlk hS hP (by first | (simp only [chaGive, chaCut, sld_eq, h12_1, eq_true h41_2, ↓reduceIte]; rw [← hR2]; simp only [chL, h60_5, ↓reduceIte]) | (rw [← hR2]; simp only [chL, h60_5, ↓reduceIte])) dX0_give_96
          · refine lv_aload_n hx hb dX0_give_63 rfl (lv_at hl 0 rfl) ?_
            refine va_get (D := G.1) (ci := 0) (v := .ref (ad (o+2))) (C := RX0) (T := TX0) (N := 6) hx hb hts hiX0 hown hY.1 hP 0 rfl rfl 1 (by decide) kf15 (fun _ h9 => h9) rfl dX0_give_64 ?_
            refine lv_aload_n hx hb dX0_give_67 rfl (lv_at hl 0 rfl) ?_
            refine va_get (D := G.1) (ci := 0) (v := .int j) (C := RX0) (T := TX0) (N := 6) hx hb hts hiX0 hown hY.1 hP 0 rfl rfl 3 (by decide) kf22 (fun _ h9 => h9) rfl dX0_give_68 ?_
            refine rdSN (w0 := [(ad (o+2), .inl (G.2.1, 300, .inl ((chaApp (w, sx, ex, aw, it, po) ia pa sa).2.2.2.2.2)))]) (As := [.ref (ad (o+2)), .int j]) (rest := []) CF (k_X6_at l G 300 (ad (o+2)) ((chaApp (w, sx, ex, aw, it, po) ia pa sa).2.2.2.2.2) j (by decide)) ⟨va_cnB 2 hts gX0_give_X6_at_n44 rfl rfl rfl (hY.2.1 (.methodLinkNest RX0 44 yX6_at RX6) (List.mem_of_getElem? (i := 22) rfl)) knRX6 (by decide +kernel) ⟨Nat.le_of_ble_eq_true rfl, Nat.le_of_ble_eq_true rfl⟩, ks_X6_at, trivial⟩ (hP.sub (ws' := [(ad (o+2), .inl (G.2.1, 300, .inl ((chaApp (w, sx, ex, aw, it, po) ia pa sa).2.2.2.2.2)))]) [2] rfl) hY rfl hl.1 rfl (lv_room (Nat.le_of_ble_eq_true rfl)) dX0_give_71 ⟨Nat.zero_le _, Nat.zero_le _⟩ ?_
            refine lv_iload_n hx hb dX0_give_74 rfl (lv_at hl 2 rfl) ?_
            refine lv_aload_n hx hb dX0_give_75 rfl (lv_at hl 0 rfl) ?_
            refine va_get (D := G.1) (ci := 0) (v := .int ((chaApp (w, sx, ex, aw, it, po) ia pa sa).1)) (C := RX0) (T := TX0) (N := 6) hx hb hts hiX0 hown hY.1 hP 0 rfl rfl 2 (by decide) kf18 (fun _ h9 => h9) rfl dX0_give_76 ?_
            refine lv_isub hx hb dX0_give_79 ?_
            refine lv_icmp_gt (tgt := 96) hx hb dX0_give_80 (by decide) (fun h80_6 => ?_) (fun h80_6 => ?_)
            · exact wr_vret hx hb hr hlk hS hP (by first | (simp only [chaGive, chaCut, sld_eq, h12_1, eq_true h41_2, ↓reduceIte]; rw [← hR2]; simp only [chL, h60_5, h80_6, ↓reduceIte]) | (rw [← hR2]; simp only [chL, h60_5, h80_6, ↓reduceIte])) dX0_give_96
            · refine lv_aload_n hx hb dX0_give_83 rfl (lv_at hl 0 rfl) ?_
              refine lv_dup hx hb dX0_give_84 rfl ?_
              refine va_get (D := G.1) (ci := 0) (v := .int j) (C := RX0) (T := TX0) (N := 6) hx hb hts hiX0 hown hY.1 hP 0 rfl rfl 3 (by decide) kf22 (fun _ h9 => h9) rfl dX0_give_85 ?_
              refine lv_iconst (v := 1) hx hb dX0_give_88 (by decide) ?_
              refine lv_iadd hx hb dX0_give_89 ?_
              refine va_put (D := G.1) (ci := 0) (v := .int (j + 1)) (ty := .int) (C := RX0) (T := TX0) (N := 6) hx hb hts hiX0 tyX0 tyX0_ok nmX0 hown hY.1 hP hD hS 0 rfl rfl 3 (by decide) kf22 (fun _ h9 => h9) rfl (by decide +kernel) rfl rfl (Nat.le_of_ble_eq_true rfl) dX0_give_90 (fun H locs hP hD hS => ?_)
              have hP : va_P G.1 vwCl (wCha G ad o ((chaApp (w, sx, ex, aw, it, po) ia pa sa).1, j + 1, (chaApp (w, sx, ex, aw, it, po) ia pa sa).2.2.1, (chaApp (w, sx, ex, aw, it, po) ia pa sa).2.2.2.1, (chaApp (w, sx, ex, aw, it, po) ia pa sa).2.2.2.2.1, (chaApp (w, sx, ex, aw, it, po) ia pa sa).2.2.2.2.2)) H := hP
              have hD : va_D A (wCha G ad o ((chaApp (w, sx, ex, aw, it, po) ia pa sa).1, j + 1, (chaApp (w, sx, ex, aw, it, po) ia pa sa).2.2.1, (chaApp (w, sx, ex, aw, it, po) ia pa sa).2.2.2.1, (chaApp (w, sx, ex, aw, it, po) ia pa sa).2.2.2.2.1, (chaApp (w, sx, ex, aw, it, po) ia pa sa).2.2.2.2.2)) := hD
              refine lv_goto (tgt := 52) hx hb dX0_give_93 (by decide) ?_
              exact ih (j + 1) (ms_up h60_5 hm) (by rw [← hR2]; simp only [chL, h60_5, h80_6, ↓reduceIte])  _ _ ls hP hD hS (lv_sub hl [0, 1, 2, 3, 4] rfl)
      exact loop2 _ ((chaApp (w, sx, ex, aw, it, po) ia pa sa).2.1) (Nat.lt_succ_self _) rfl  _ _ ls hP hD hS (lv_sub hl [0, 1, 2, 3, 4] rfl)
  · refine lv_aload_n hx hb dX0_give_15 rfl (lv_at hl 0 rfl) ?_
    refine lv_iconst (v := 0) hx hb dX0_give_16 (by decide) ?_
    refine va_put (D := G.1) (ci := 0) (v := .int 0) (ty := .int) (C := RX0) (T := TX0) (N := 6) hx hb hts hiX0 tyX0 tyX0_ok nmX0 hown hY.1 hP hD hS 0 rfl rfl 3 (by decide) kf22 (fun _ h9 => h9) rfl (by decide +kernel) rfl rfl (Nat.le_of_ble_eq_true rfl) dX0_give_17 (fun H locs hP hD hS => ?_)
    have hP : va_P G.1 vwCl (wCha G ad o (w, 0, ex, aw, it, po)) H := hP
    have hD : va_D A (wCha G ad o (w, 0, ex, aw, it, po)) := hD
    refine lv_aload_n hx hb dX0_give_20 rfl (lv_at hl 0 rfl) ?_
    refine lv_iconst (v := 0) hx hb dX0_give_21 (by decide) ?_
    refine va_put (D := G.1) (ci := 0) (v := .int 0) (ty := .int) (C := RX0) (T := TX0) (N := 6) hx hb hts hiX0 tyX0 tyX0_ok nmX0 hown hY.1 hP hD hS 0 rfl rfl 4 (by decide) kf25 (fun _ h9 => h9) rfl (by decide +kernel) rfl rfl (Nat.le_of_ble_eq_true rfl) dX0_give_22 (fun H locs hP hD hS => ?_)
    have hP : va_P G.1 vwCl (wCha G ad o (w, 0, 0, aw, it, po)) H := hP
    have hD : va_D A (wCha G ad o (w, 0, 0, aw, it, po)) := hD
    refine lv_aload_n hx hb dX0_give_25 rfl (lv_at hl 0 rfl) ?_
    refine lv_iload_n hx hb dX0_give_26 rfl (lv_at hl 1 rfl) ?_
    refine lv_iload_n hx hb dX0_give_27 rfl (lv_at hl 2 rfl) ?_
    refine lv_iload hx hb dX0_give_28 (lv_at hl 4 rfl) ?_
    refine wrV [] (wCha G ad o (w, 0, 0, aw, it, po)) [] (wCha G ad o (chaApp (w, 0, 0, aw, it, po) ia pa sa)) (As := [.int ia, .int pa, .int sa]) (rest := []) CF (k_X0_append l G ad o (w, 0, 0, aw, it, po) ia pa sa) (cwV 3 hts gX0_give_X0_append rfl rfl rfl (by decide +kernel) ⟨Nat.le_of_ble_eq_true rfl, Nat.le_of_ble_eq_true rfl⟩) hP hD hS hA hY rfl rfl (fst_Cha _ _ _ _ _) rfl hl.1 rfl (lv_room (Nat.le_of_ble_eq_true rfl)) dX0_give_30 ⟨Nat.zero_le _, Nat.zero_le _⟩ (fun H locs hP hD hS => ?_)
    have hP : va_P G.1 vwCl (wCha G ad o (chaApp (w, 0, 0, aw, it, po) ia pa sa)) H := hP
    have hD : va_D A (wCha G ad o (chaApp (w, 0, 0, aw, it, po) ia pa sa)) := hD
    refine lv_goto (tgt := 52) hx hb dX0_give_33 (by decide) ?_
    have loop3 : ∀ (fu : Nat) (j : Int32), (((chaApp (w, 0, 0, aw, it, po) ia pa sa).2.2.1).toInt - j.toInt).toNat < fu → chL pa ((chaApp (w, 0, 0, aw, it, po) ia pa sa).1) ((chaApp (w, 0, 0, aw, it, po) ia pa sa).2.2.1) ((chaApp (w, 0, 0, aw, it, po) ia pa sa).2.2.2.2.2) fu j = chL pa ((chaApp (w, 0, 0, aw, it, po) ia pa sa).1) ((chaApp (w, 0, 0, aw, it, po) ia pa sa).2.2.1) ((chaApp (w, 0, 0, aw, it, po) ia pa sa).2.2.2.2.2) ((((chaApp (w, 0, 0, aw, it, po) ia pa sa).2.2.1).toInt - (((chaApp (w, 0, 0, aw, it, po) ia pa sa).2.1)).toInt).toNat + 1) ((chaApp (w, 0, 0, aw, it, po) ia pa sa).2.1) → ∀ (H : Heap) (locs : List Loc) (ls : Array Slot), va_P G.1 vwCl (wCha G ad o ((chaApp (w, 0, 0, aw, it, po) ia pa sa).1, j, (chaApp (w, 0, 0, aw, it, po) ia pa sa).2.2.1, (chaApp (w, 0, 0, aw, it, po) ia pa sa).2.2.2.1, (chaApp (w, 0, 0, aw, it, po) ia pa sa).2.2.2.2.1, (chaApp (w, 0, 0, aw, it, po) ia pa sa).2.2.2.2.2)) H → va_D A (wCha G ad o ((chaApp (w, 0, 0, aw, it, po) ia pa sa).1, j, (chaApp (w, 0, 0, aw, it, po) ia pa sa).2.2.1, (chaApp (w, 0, 0, aw, it, po) ia pa sa).2.2.2.1, (chaApp (w, 0, 0, aw, it, po) ia pa sa).2.2.2.2.1, (chaApp (w, 0, 0, aw, it, po) ia pa sa).2.2.2.2.2)) → va_S A s.heap H locs → lv_has ls 5 [(0, .ref (ad o)), (1, .int ia), (2, .int pa), (3, .int fa), (4, .int sa)] → W p l e (headSpec wsX0_give { frames := 2, cells := 0, slots := 0, locals := 45 }).room s m ([.ref (ad o), .int ia, .int pa, .int fa, .int sa] : List Value).toArray below meth c H locs 0 0 (MQ below (WQ none G (wCha G ad o (chaGive (w, sx, ex, aw, it, po) ia pa fa sa)) A) ([.ref (ad o), .int ia, .int pa, .int fa, .int sa] : List Value).toArray s 0 0 A) (F0 m 52 ls []) := by
      intro fu
      induction fu with
      | zero => intro j hm; exact absurd hm (Nat.not_lt_zero _)
      | succ fu ih =>
        intro j hm hR3  H locs ls hP hD hS hl
        refine lv_aload_n hx hb dX0_give_52 rfl (lv_at hl 0 rfl) ?_
        refine va_get (D := G.1) (ci := 0) (v := .int j) (C := RX0) (T := TX0) (N := 6) hx hb hts hiX0 hown hY.1 hP 0 rfl rfl 3 (by decide) kf22 (fun _ h9 => h9) rfl dX0_give_53 ?_
        refine lv_aload_n hx hb dX0_give_56 rfl (lv_at hl 0 rfl) ?_
        refine va_get (D := G.1) (ci := 0) (v := .int ((chaApp (w, 0, 0, aw, it, po) ia pa sa).2.2.1)) (C := RX0) (T := TX0) (N := 6) hx hb hts hiX0 hown hY.1 hP 0 rfl rfl 4 (by decide) kf25 (fun _ h9 => h9) rfl dX0_give_57 ?_
        refine lv_icmp_ge (tgt := 96) hx hb dX0_give_60 (by decide) (fun h60_7 => ?_) (fun h60_7 => ?_)
        · exact wr_vret hx hb hr hlk hS hP (by first | (simp only [chaGive, chaCut, sld_eq, eq_true h12_1, ↓reduceIte]; rw [← hR3]; simp only [chL, h60_7, ↓reduceIte]) | (rw [← hR3]; simp only [chL, h60_7, ↓reduceIte])) dX0_give_96
        · refine lv_aload_n hx hb dX0_give_63 rfl (lv_at hl 0 rfl) ?_
          refine va_get (D := G.1) (ci := 0) (v := .ref (ad (o+2))) (C := RX0) (T := TX0) (N := 6) hx hb hts hiX0 hown hY.1 hP 0 rfl rfl 1 (by decide) kf15 (fun _ h9 => h9) rfl dX0_give_64 ?_
          refine lv_aload_n hx hb dX0_give_67 rfl (lv_at hl 0 rfl) ?_
          refine va_get (D := G.1) (ci := 0) (v := .int j) (C := RX0) (T := TX0) (N := 6) hx hb hts hiX0 hown hY.1 hP 0 rfl rfl 3 (by decide) kf22 (fun _ h9 => h9) rfl dX0_give_68 ?_
          refine rdSN (w0 := [(ad (o+2), .inl (G.2.1, 300, .inl ((chaApp (w, 0, 0, aw, it, po) ia pa sa).2.2.2.2.2)))]) (As := [.ref (ad (o+2)), .int j]) (rest := []) CF (k_X6_at l G 300 (ad (o+2)) ((chaApp (w, 0, 0, aw, it, po) ia pa sa).2.2.2.2.2) j (by decide)) ⟨va_cnB 2 hts gX0_give_X6_at_n44 rfl rfl rfl (hY.2.1 (.methodLinkNest RX0 44 yX6_at RX6) (List.mem_of_getElem? (i := 22) rfl)) knRX6 (by decide +kernel) ⟨Nat.le_of_ble_eq_true rfl, Nat.le_of_ble_eq_true rfl⟩, ks_X6_at, trivial⟩ (hP.sub (ws' := [(ad (o+2), .inl (G.2.1, 300, .inl ((chaApp (w, 0, 0, aw, it, po) ia pa sa).2.2.2.2.2)))]) [2] rfl) hY rfl hl.1 rfl (lv_room (Nat.le_of_ble_eq_true rfl)) dX0_give_71 ⟨Nat.zero_le _, Nat.zero_le _⟩ ?_
          refine lv_iload_n hx hb dX0_give_74 rfl (lv_at hl 2 rfl) ?_
          refine lv_aload_n hx hb dX0_give_75 rfl (lv_at hl 0 rfl) ?_
          refine va_get (D := G.1) (ci := 0) (v := .int ((chaApp (w, 0, 0, aw, it, po) ia pa sa).1)) (C := RX0) (T := TX0) (N := 6) hx hb hts hiX0 hown hY.1 hP 0 rfl rfl 2 (by decide) kf18 (fun _ h9 => h9) rfl dX0_give_76 ?_
          refine lv_isub hx hb dX0_give_79 ?_
          refine lv_icmp_gt (tgt := 96) hx hb dX0_give_80 (by decide) (fun h80_8 => ?_) (fun h80_8 => ?_)
          · exact wr_vret hx hb hr hlk hS hP (by first | (simp only [chaGive, chaCut, sld_eq, eq_true h12_1, ↓reduceIte]; rw [← hR3]; simp only [chL, h60_7, h80_8, ↓reduceIte]) | (rw [← hR3]; simp only [chL, h60_7, h80_8, ↓reduceIte])) dX0_give_96
          · refine lv_aload_n hx hb dX0_give_83 rfl (lv_at hl 0 rfl) ?_
            refine lv_dup hx hb dX0_give_84 rfl ?_
            refine va_get (D := G.1) (ci := 0) (v := .int j) (C := RX0) (T := TX0) (N := 6) hx hb hts hiX0 hown hY.1 hP 0 rfl rfl 3 (by decide) kf22 (fun _ h9 => h9) rfl dX0_give_85 ?_
            refine lv_iconst (v := 1) hx hb dX0_give_88 (by decide) ?_
            refine lv_iadd hx hb dX0_give_89 ?_
            refine va_put (D := G.1) (ci := 0) (v := .int (j + 1)) (ty := .int) (C := RX0) (T := TX0) (N := 6) hx hb hts hiX0 tyX0 tyX0_ok nmX0 hown hY.1 hP hD hS 0 rfl rfl 3 (by decide) kf22 (fun _ h9 => h9) rfl (by decide +kernel) rfl rfl (Nat.le_of_ble_eq_true rfl) dX0_give_90 (fun H locs hP hD hS => ?_)
            have hP : va_P G.1 vwCl (wCha G ad o ((chaApp (w, 0, 0, aw, it, po) ia pa sa).1, j + 1, (chaApp (w, 0, 0, aw, it, po) ia pa sa).2.2.1, (chaApp (w, 0, 0, aw, it, po) ia pa sa).2.2.2.1, (chaApp (w, 0, 0, aw, it, po) ia pa sa).2.2.2.2.1, (chaApp (w, 0, 0, aw, it, po) ia pa sa).2.2.2.2.2)) H := hP
            have hD : va_D A (wCha G ad o ((chaApp (w, 0, 0, aw, it, po) ia pa sa).1, j + 1, (chaApp (w, 0, 0, aw, it, po) ia pa sa).2.2.1, (chaApp (w, 0, 0, aw, it, po) ia pa sa).2.2.2.1, (chaApp (w, 0, 0, aw, it, po) ia pa sa).2.2.2.2.1, (chaApp (w, 0, 0, aw, it, po) ia pa sa).2.2.2.2.2)) := hD
            refine lv_goto (tgt := 52) hx hb dX0_give_93 (by decide) ?_
            exact ih (j + 1) (ms_up h60_7 hm) (by rw [← hR3]; simp only [chL, h60_7, h80_8, ↓reduceIte])  _ _ ls hP hD hS (lv_sub hl [0, 1, 2, 3, 4] rfl)
    exact loop3 _ ((chaApp (w, 0, 0, aw, it, po) ia pa sa).2.1) (Nat.lt_succ_self _) rfl  _ _ ls hP hD hS (lv_sub hl [0, 1, 2, 3, 4] rfl)
