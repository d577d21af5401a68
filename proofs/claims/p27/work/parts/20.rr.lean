set_option maxHeartbeats 4000000 in
set_option maxRecDepth 100000 in
theorem k_X6_startAgain (l : Launch) (G : GT) (ad : Nat → Nat) (o : Nat) (sg : RRT) (k2 w2 : Int32) : Wr l yX6_startAgain wsX6_startAgain { frames := 4, cells := 0, slots := 0, locals := 84 } G (wRR G ad o sg) (wRR G ad o (rrStart k2 w2 sg)) [.ref (ad o), .int k2, .int w2] none := by
  intro sz
  obtain ⟨k, s0, s1, mp, md⟩ := sg
  refine Met.ofW (cc := cX6_startAgain) (maxL := 3) (ret := none) (by decide) rfl ?_
  intro p e s m args below meth c s₁ B hml hv
  obtain ⟨rfl, hsz, hP, hY, hD0⟩ := hv
  subst hsz
  have hD := hD0.self (sz := s.heap.size)
  generalize hAe : va_A (wRR G ad o (k, s0, s1, mp, md)) s.heap.size = A at hD ⊢
  have hA : ∀ q : Nat, s.heap.size ≤ q → A q := fun q h => by rw [← hAe]; exact Or.inr h
  have hS : va_S A s.heap s.heap [] := va_S.rf
  have hx := B.exec
  have hb := B.bytes
  have hr := B.returns
  have hts := atoms_spec (ws := wsX6_startAgain) B.pre
  have hown : s.vm.findClass RX6 = some m.cls := findClass_of_methodNamed B.named
  have hlk := B.notSynchronized
  have CF : CallFix p m c cX6_startAgain 3 s _ wsX6_startAgain RX6 := ⟨hx, hb, hml, hown, hts⟩
  have hiX6 : ∀ w ∈ wsX60, w ∈ wsX6_startAgain := fun w h => (List.mem_cons_of_mem _ (List.mem_append_left _ (List.mem_append_left _ (List.mem_append_left _ (List.mem_append_left _ (List.mem_append_left _ (List.mem_append_left _ (List.mem_append_right _ h))))))))
  have kf155 := hts (.fieldLink RX6 153 "ReservoirReed" "size" "I") (List.mem_cons_of_mem _ (List.mem_append_left _ (List.mem_append_left _ (List.mem_append_left _ (List.mem_append_left _ (List.mem_append_left _ (List.mem_append_left _ (List.mem_append_left _ (List.mem_append_left _ (List.mem_of_getElem? (i := 0) rfl))))))))))
  have kf10 := hts (.fieldLink RX6 10 "ReservoirReed" "stream0" "LReservoirReed$Stream;") (List.mem_cons_of_mem _ (List.mem_append_left _ (List.mem_append_left _ (List.mem_append_left _ (List.mem_append_left _ (List.mem_append_left _ (List.mem_append_left _ (List.mem_append_left _ (List.mem_append_left _ (List.mem_of_getElem? (i := 1) rfl))))))))))
  have kf16 := hts (.fieldLink RX6 16 "ReservoirReed" "stream1" "LReservoirReed$Stream;") (List.mem_cons_of_mem _ (List.mem_append_left _ (List.mem_append_left _ (List.mem_append_left _ (List.mem_append_left _ (List.mem_append_left _ (List.mem_append_left _ (List.mem_append_left _ (List.mem_append_left _ (List.mem_of_getElem? (i := 2) rfl))))))))))
  have hl := lv_entry ([.ref (ad o), .int k2, .int w2]) (n := 3) (Nat.le_of_ble_eq_true rfl)
  rw [lg_entry_eq]
  generalize (lg_sl ([.ref (ad o), .int k2, .int w2]) ++ List.replicate (3 - (lg_sl ([.ref (ad o), .int k2, .int w2])).length) Slot.unset).toArray = ls at hl ⊢
  have hl : lv_has ls 3 [(0, .ref (ad o)), (1, .int k2), (2, .int w2)] := hl
  refine lv_aload_n hx hb dX6_startAgain_0 rfl (lv_at hl 0 rfl) ?_
  refine lv_iload_n hx hb dX6_startAgain_1 rfl (lv_at hl 1 rfl) ?_
  refine va_put (D := G.1) (ci := 6) (v := .int k2) (ty := .int) (C := RX6) (T := TX6) (N := 5) hx hb hts hiX6 tyX6 tyX6_ok nmX6 hown hY.1 hP hD hS 0 rfl rfl 4 (by decide) kf155 (fun _ h9 => h9) rfl (by decide +kernel) rfl rfl (Nat.le_of_ble_eq_true rfl) dX6_startAgain_2 (fun H locs hP hD hS => ?_)
  have hP : va_P G.1 vwCl (wRR G ad o (k2, s0, s1, mp, md)) H := hP
  have hD : va_D A (wRR G ad o (k2, s0, s1, mp, md)) := hD
  refine lv_aload_n hx hb dX6_startAgain_5 rfl (lv_at hl 0 rfl) ?_
  refine va_get (D := G.1) (ci := 6) (v := .ref (ad (o+1))) (C := RX6) (T := TX6) (N := 5) hx hb hts hiX6 hown hY.1 hP 0 rfl rfl 0 (by decide) kf10 (fun _ h9 => h9) rfl dX6_startAgain_6 ?_
  refine lv_iload_n hx hb dX6_startAgain_9 rfl (lv_at hl 1 rfl) ?_
  refine lv_iload_n hx hb dX6_startAgain_10 rfl (lv_at hl 2 rfl) ?_
  have eW1 : (wRR G ad o (k2, s0, s1, mp, md)) = ([(ad o, .inr (6, [.ref (ad (o+1)), .ref (ad (o+32)), .ref (ad (o+63)), .ref (ad (o+68)), .int k2]))] : va_W) ++ ((wStr G ad (o+1) s0) ++ (wStr G ad (o+32) s1 ++ (wPri G ad (o+63) mp ++ (wDis G ad (o+68) md)) : va_W)) := by simp only [wRR, List.cons_append, List.append_assoc, List.nil_append, List.append_nil]
  rw [eW1] at hP hD
  refine wrV ([(ad o, .inr (6, [.ref (ad (o+1)), .ref (ad (o+32)), .ref (ad (o+63)), .ref (ad (o+68)), .int k2]))] : va_W) (wStr G ad (o+1) s0) (wStr G ad (o+32) s1 ++ (wPri G ad (o+63) mp ++ (wDis G ad (o+68) md)) : va_W) (wStr G ad (o+1) (strStart k2 w2 s0)) (As := [.int k2, .int w2]) (rest := []) CF (k_X5_startAgain l G ad (o+1) s0 k2 w2) (cwV 2 hts gX6_startAgain_X5_startAgain rfl rfl rfl (by decide +kernel) ⟨Nat.le_of_ble_eq_true rfl, Nat.le_of_ble_eq_true rfl⟩) hP hD hS hA hY rfl rfl (fst_Str _ _ _ _ _) rfl hl.1 rfl (lv_room (Nat.le_of_ble_eq_true rfl)) dX6_startAgain_11 ⟨Nat.zero_le _, Nat.zero_le _⟩ (fun H locs hP hD hS => ?_)
  have eV1 : ([(ad o, .inr (6, [.ref (ad (o+1)), .ref (ad (o+32)), .ref (ad (o+63)), .ref (ad (o+68)), .int k2]))] : va_W) ++ ((wStr G ad (o+1) (strStart k2 w2 s0)) ++ (wStr G ad (o+32) s1 ++ (wPri G ad (o+63) mp ++ (wDis G ad (o+68) md)) : va_W)) = (wRR G ad o (k2, strStart k2 w2 s0, s1, mp, md)) := by simp only [wRR, List.cons_append, List.append_assoc, List.nil_append, List.append_nil]
  rw [eV1] at hP hD
  refine lv_aload_n hx hb dX6_startAgain_14 rfl (lv_at hl 0 rfl) ?_
  refine va_get (D := G.1) (ci := 6) (v := .ref (ad (o+32))) (C := RX6) (T := TX6) (N := 5) hx hb hts hiX6 hown hY.1 hP 0 rfl rfl 1 (by decide) kf16 (fun _ h9 => h9) rfl dX6_startAgain_15 ?_
  refine lv_iload_n hx hb dX6_startAgain_18 rfl (lv_at hl 1 rfl) ?_
  refine lv_iload_n hx hb dX6_startAgain_19 rfl (lv_at hl 2 rfl) ?_
  have eW2 : (wRR G ad o (k2, strStart k2 w2 s0, s1, mp, md)) = (((ad o, .inr (6, [.ref (ad (o+1)), .ref (ad (o+32)), .ref (ad (o+63)), .ref (ad (o+68)), .int k2]))) :: (wStr G ad (o+1) (strStart k2 w2 s0)) : va_W) ++ ((wStr G ad (o+32) s1) ++ (wPri G ad (o+63) mp ++ (wDis G ad (o+68) md) : va_W)) := by simp only [wRR, List.cons_append, List.append_assoc, List.nil_append, List.append_nil]
  rw [eW2] at hP hD
  refine wrV (((ad o, .inr (6, [.ref (ad (o+1)), .ref (ad (o+32)), .ref (ad (o+63)), .ref (ad (o+68)), .int k2]))) :: (wStr G ad (o+1) (strStart k2 w2 s0)) : va_W) (wStr G ad (o+32) s1) (wPri G ad (o+63) mp ++ (wDis G ad (o+68) md) : va_W) (wStr G ad (o+32) (strStart k2 w2 s1)) (As := [.int k2, .int w2]) (rest := []) CF (k_X5_startAgain l G ad (o+32) s1 k2 w2) (cwV 2 hts gX6_startAgain_X5_startAgain rfl rfl rfl (by decide +kernel) ⟨Nat.le_of_ble_eq_true rfl, Nat.le_of_ble_eq_true rfl⟩) hP hD hS hA hY rfl rfl (fst_Str _ _ _ _ _) rfl hl.1 rfl (lv_room (Nat.le_of_ble_eq_true rfl)) dX6_startAgain_20 ⟨Nat.zero_le _, Nat.zero_le _⟩ (fun H locs hP hD hS => ?_)
  have eV2 : (((ad o, .inr (6, [.ref (ad (o+1)), .ref (ad (o+32)), .ref (ad (o+63)), .ref (ad (o+68)), .int k2]))) :: (wStr G ad (o+1) (strStart k2 w2 s0)) : va_W) ++ ((wStr G ad (o+32) (strStart k2 w2 s1)) ++ (wPri G ad (o+63) mp ++ (wDis G ad (o+68) md) : va_W)) = (wRR G ad o (k2, strStart k2 w2 s0, strStart k2 w2 s1, mp, md)) := by simp only [wRR, List.cons_append, List.append_assoc, List.nil_append, List.append_nil]
  rw [eV2] at hP hD
  exact wr_vret hx hb hr hlk hS hP (by first | with_reducible rfl | (simp only [rrStart, sld_eq, ↓reduceIte]; done)) dX6_startAgain_23

set_option maxHeartbeats 4000000 in
set_option maxRecDepth 100000 in
theorem k0_X6_streamOf (l : Launch) (G : GT) (ad : Nat → Nat) (o : Nat) (sg : RRT) (st : Int32) (q0 : st = 0) : Rd l yX6_streamOf wsX6_streamOf { frames := 0, cells := 0, slots := 0, locals := 0 } G (wRR G ad o sg) [.ref (ad o), .int st] (.ref (ad (o+1))) := by
  obtain ⟨k, s0, s1, mp, md⟩ := sg
  refine Met.ofW (cc := cX6_streamOf) (maxL := 2) (ret := (some (.object "ReservoirReed$Stream"))) (by decide) rfl ?_
  intro p e s m args below meth c s₁ B hml hv
  obtain ⟨rfl, hP, hY⟩ := hv
  have hx := B.exec
  have hb := B.bytes
  have hr := B.returns
  have hts := atoms_spec (ws := wsX6_streamOf) B.pre
  have hown : s.vm.findClass RX6 = some m.cls := findClass_of_methodNamed B.named
  have hlk := B.notSynchronized
  have CF : CallFix p m c cX6_streamOf 2 s _ wsX6_streamOf RX6 := ⟨hx, hb, hml, hown, hts⟩
  have hiX6 : ∀ w ∈ wsX60, w ∈ wsX6_streamOf := fun w h => (List.mem_cons_of_mem _ (List.mem_append_right _ h))
  have kf10 := hts (.fieldLink RX6 10 "ReservoirReed" "stream0" "LReservoirReed$Stream;") (List.mem_cons_of_mem _ (List.mem_append_left _ (List.mem_of_getElem? (i := 0) rfl)))
  have hl := lv_entry ([.ref (ad o), .int st]) (n := 2) (Nat.le_of_ble_eq_true rfl)
  rw [lg_entry_eq]
  generalize (lg_sl ([.ref (ad o), .int st]) ++ List.replicate (2 - (lg_sl ([.ref (ad o), .int st])).length) Slot.unset).toArray = ls at hl ⊢
  have hl : lv_has ls 2 [(0, .ref (ad o)), (1, .int st)] := hl
  refine lv_iload_n hx hb dX6_streamOf_0 rfl (lv_at hl 1 rfl) ?_
  refine lv_if_ne (tgt := 11) hx hb dX6_streamOf_1 (by decide) (fun h1_1 => ?_) (fun h1_1 => ?_)
  · exact absurd q0 h1_1
  · refine lv_aload_n hx hb dX6_streamOf_4 rfl (lv_at hl 0 rfl) ?_
    refine va_get (D := G.1) (ci := 6) (v := .ref (ad (o+1))) (C := RX6) (T := TX6) (N := 5) hx hb hts hiX6 hown hY.1 hP 0 rfl rfl 0 (by decide) kf10 (fun _ h9 => h9) rfl dX6_streamOf_5 ?_
    refine lv_goto (tgt := 15) hx hb dX6_streamOf_8 (by decide) ?_
    exact rd_aret hx hb hr hlk (Or.inl ⟨_, rfl⟩) (by first | with_reducible rfl | (simp only [sld_eq, eq_true h1_1, ↓reduceIte]; done)) dX6_streamOf_15

set_option maxHeartbeats 4000000 in
set_option maxRecDepth 100000 in
theorem k1_X6_streamOf (l : Launch) (G : GT) (ad : Nat → Nat) (o : Nat) (sg : RRT) (st : Int32) (q0 : ¬ st = 0) : Rd l yX6_streamOf wsX6_streamOf { frames := 0, cells := 0, slots := 0, locals := 0 } G (wRR G ad o sg) [.ref (ad o), .int st] (.ref (ad (o+32))) := by
  obtain ⟨k, s0, s1, mp, md⟩ := sg
  refine Met.ofW (cc := cX6_streamOf) (maxL := 2) (ret := (some (.object "ReservoirReed$Stream"))) (by decide) rfl ?_
  intro p e s m args below meth c s₁ B hml hv
  obtain ⟨rfl, hP, hY⟩ := hv
  have hx := B.exec
  have hb := B.bytes
  have hr := B.returns
  have hts := atoms_spec (ws := wsX6_streamOf) B.pre
  have hown : s.vm.findClass RX6 = some m.cls := findClass_of_methodNamed B.named
  have hlk := B.notSynchronized
  have CF : CallFix p m c cX6_streamOf 2 s _ wsX6_streamOf RX6 := ⟨hx, hb, hml, hown, hts⟩
  have hiX6 : ∀ w ∈ wsX60, w ∈ wsX6_streamOf := fun w h => (List.mem_cons_of_mem _ (List.mem_append_right _ h))
  have kf16 := hts (.fieldLink RX6 16 "ReservoirReed" "stream1" "LReservoirReed$Stream;") (List.mem_cons_of_mem _ (List.mem_append_left _ (List.mem_of_getElem? (i := 1) rfl)))
  have hl := lv_entry ([.ref (ad o), .int st]) (n := 2) (Nat.le_of_ble_eq_true rfl)
  rw [lg_entry_eq]
  generalize (lg_sl ([.ref (ad o), .int st]) ++ List.replicate (2 - (lg_sl ([.ref (ad o), .int st])).length) Slot.unset).toArray = ls at hl ⊢
  have hl : lv_has ls 2 [(0, .ref (ad o)), (1, .int st)] := hl
  refine lv_iload_n hx hb dX6_streamOf_0 rfl (lv_at hl 1 rfl) ?_
  refine lv_if_ne (tgt := 11) hx hb dX6_streamOf_1 (by decide) (fun h1_1 => ?_) (fun h1_1 => ?_)
  · refine lv_aload_n hx hb dX6_streamOf_11 rfl (lv_at hl 0 rfl) ?_
    refine va_get (D := G.1) (ci := 6) (v := .ref (ad (o+32))) (C := RX6) (T := TX6) (N := 5) hx hb hts hiX6 hown hY.1 hP 0 rfl rfl 1 (by decide) kf16 (fun _ h9 => h9) rfl dX6_streamOf_12 ?_
    exact rd_aret hx hb hr hlk (Or.inl ⟨_, rfl⟩) (by first | with_reducible rfl | (simp only [sld_eq, h1_1, ↓reduceIte]; done)) dX6_streamOf_15
  · exact absurd h1_1 q0
