set_option maxHeartbeats 4000000 in
set_option maxRecDepth 100000 in
theorem k2_X6_prioritiesOf (l : Launch) (G : GT) (ad : Nat → Nat) (o : Nat) (sg : RRT) (st : Int32) (q0 : st = 2) : Wr l yX6_prioritiesOf wsX6_prioritiesOf { frames := 5, cells := 0, slots := 0, locals := 115 } G (wRR G ad o sg) (wRR G ad o (rrMP sg st)) [.ref (ad o), .int st] (some (.ref (ad (o+63)))) := by
  intro sz
  obtain ⟨k, s0, s1, mp, md⟩ := sg
  refine Met.ofW (cc := cX6_prioritiesOf) (maxL := 2) (ret := (some (.object "ReservoirReed$Priorities"))) (by decide) rfl ?_
  intro p e s m args below meth c s₁ B hml hv
  obtain ⟨rfl, hsz, hP, hY, hD0⟩ := hv
  subst hsz
  have hD := hD0.self (sz := s.heap.size)
  generalize hAe : va_A (wRR G ad o (k, s0, s1, mp, md)) s.heap.size = A at hD ⊢
  have hA : ∀ q : Nat, s.heap.size ≤ q → A q := fun q h => by rw [← hAe]; exact Or.inr h
  have hS : va_S A s.heap s.heap [] := va_S.rf
  have hx := B.exec
  have hb := B.bytes
  have hr := B.returns
  have hts := atoms_spec (ws := wsX6_prioritiesOf) B.pre
  have hown : s.vm.findClass RX6 = some m.cls := findClass_of_methodNamed B.named
  have hlk := B.notSynchronized
  have CF : CallFix p m c cX6_prioritiesOf 2 s _ wsX6_prioritiesOf RX6 := ⟨hx, hb, hml, hown, hts⟩
  have hiX6 : ∀ w ∈ wsX60, w ∈ wsX6_prioritiesOf := fun w h => (List.mem_cons_of_mem _ (List.mem_append_left _ (List.mem_append_right _ h)))
  have kf22 := hts (.fieldLink RX6 22 "ReservoirReed" "mergedPriorities" "LReservoirReed$Priorities;") (List.mem_cons_of_mem _ (List.mem_append_left _ (List.mem_append_left _ (List.mem_append_left _ (List.mem_append_left _ (List.mem_of_getElem? (i := 0) rfl))))))
  have kf155 := hts (.fieldLink RX6 153 "ReservoirReed" "size" "I") (List.mem_cons_of_mem _ (List.mem_append_left _ (List.mem_append_left _ (List.mem_append_left _ (List.mem_append_left _ (List.mem_of_getElem? (i := 1) rfl))))))
  have kf10 := hts (.fieldLink RX6 10 "ReservoirReed" "stream0" "LReservoirReed$Stream;") (List.mem_cons_of_mem _ (List.mem_append_left _ (List.mem_append_left _ (List.mem_append_left _ (List.mem_append_left _ (List.mem_of_getElem? (i := 2) rfl))))))
  have hiX5 : ∀ w ∈ wsX50, w ∈ wsX6_prioritiesOf := fun w h => (List.mem_cons_of_mem _ (List.mem_append_left _ (List.mem_append_left _ (List.mem_append_right _ h))))
  have kf16 := hts (.fieldLink RX6 16 "ReservoirReed" "stream1" "LReservoirReed$Stream;") (List.mem_cons_of_mem _ (List.mem_append_left _ (List.mem_append_left _ (List.mem_append_left _ (List.mem_append_left _ (List.mem_of_getElem? (i := 3) rfl))))))
  have hl := lv_entry ([.ref (ad o), .int st]) (n := 2) (Nat.le_of_ble_eq_true rfl)
  rw [lg_entry_eq]
  generalize (lg_sl ([.ref (ad o), .int st]) ++ List.replicate (2 - (lg_sl ([.ref (ad o), .int st])).length) Slot.unset).toArray = ls at hl ⊢
  have hl : lv_has ls 2 [(0, .ref (ad o)), (1, .int st)] := hl
  refine lv_iload_n hx hb dX6_prioritiesOf_0 rfl (lv_at hl 1 rfl) ?_
  refine lv_iconst (v := 2) hx hb dX6_prioritiesOf_1 (by decide) ?_
  refine lv_icmp_eq (tgt := 14) hx hb dX6_prioritiesOf_2 (by decide) (fun h2_1 => ?_) (fun h2_1 => ?_)
  · refine lv_aload_n hx hb dX6_prioritiesOf_14 rfl (lv_at hl 0 rfl) ?_
    refine va_get (D := G.1) (ci := 6) (v := .ref (ad (o+63))) (C := RX6) (T := TX6) (N := 5) hx hb hts hiX6 hown hY.1 hP 0 rfl rfl 2 (by decide) kf22 (fun _ h9 => h9) rfl dX6_prioritiesOf_15 ?_
    refine lv_aload_n hx hb dX6_prioritiesOf_18 rfl (lv_at hl 0 rfl) ?_
    refine va_get (D := G.1) (ci := 6) (v := .int k) (C := RX6) (T := TX6) (N := 5) hx hb hts hiX6 hown hY.1 hP 0 rfl rfl 4 (by decide) kf155 (fun _ h9 => h9) rfl dX6_prioritiesOf_19 ?_
    have eW2 : (wRR G ad o (k, s0, s1, mp, md)) = (((ad o, .inr (6, [.ref (ad (o+1)), .ref (ad (o+32)), .ref (ad (o+63)), .ref (ad (o+68)), .int k]))) :: (wStr G ad (o+1) s0 ++ (wStr G ad (o+32) s1)) : va_W) ++ ((wPri G ad (o+63) mp) ++ (wDis G ad (o+68) md : va_W)) := by simp only [wRR, List.cons_append, List.append_assoc, List.nil_append, List.append_nil]
    rw [eW2] at hP hD
    refine wrV (((ad o, .inr (6, [.ref (ad (o+1)), .ref (ad (o+32)), .ref (ad (o+63)), .ref (ad (o+68)), .int k]))) :: (wStr G ad (o+1) s0 ++ (wStr G ad (o+32) s1)) : va_W) (wPri G ad (o+63) mp) (wDis G ad (o+68) md : va_W) (wPri G ad (o+63) (priStart k mp)) (As := [.int k]) (rest := []) CF (k_X3_startAgain l G ad (o+63) mp k) (cwV 1 hts gX6_prioritiesOf_X3_startAgain rfl rfl rfl (by decide +kernel) ⟨Nat.le_of_ble_eq_true rfl, Nat.le_of_ble_eq_true rfl⟩) hP hD hS hA hY rfl rfl (fst_Pri _ _ _ _ _) rfl hl.1 rfl (lv_room (Nat.le_of_ble_eq_true rfl)) dX6_prioritiesOf_22 ⟨Nat.zero_le _, Nat.zero_le _⟩ (fun H locs hP hD hS => ?_)
    have eV2 : (((ad o, .inr (6, [.ref (ad (o+1)), .ref (ad (o+32)), .ref (ad (o+63)), .ref (ad (o+68)), .int k]))) :: (wStr G ad (o+1) s0 ++ (wStr G ad (o+32) s1)) : va_W) ++ ((wPri G ad (o+63) (priStart k mp)) ++ (wDis G ad (o+68) md : va_W)) = (wRR G ad o (k, s0, s1, priStart k mp, md)) := by simp only [wRR, List.cons_append, List.append_assoc, List.nil_append, List.append_nil]
    rw [eV2] at hP hD
    refine lv_aload_n hx hb dX6_prioritiesOf_25 rfl (lv_at hl 0 rfl) ?_
    refine va_get (D := G.1) (ci := 6) (v := .ref (ad (o+63))) (C := RX6) (T := TX6) (N := 5) hx hb hts hiX6 hown hY.1 hP 0 rfl rfl 2 (by decide) kf22 (fun _ h9 => h9) rfl dX6_prioritiesOf_26 ?_
    refine lv_aload_n hx hb dX6_prioritiesOf_29 rfl (lv_at hl 0 rfl) ?_
    refine va_get (D := G.1) (ci := 6) (v := .ref (ad (o+1))) (C := RX6) (T := TX6) (N := 5) hx hb hts hiX6 hown hY.1 hP 0 rfl rfl 0 (by decide) kf10 (fun _ h9 => h9) rfl dX6_prioritiesOf_30 ?_
    have hQ3 := va_P.subm (u := wStr G ad (o+1) s0) (fun q h => by simp only [wRR, List.mem_cons, List.mem_append, h, true_or, or_true]) hP
    refine va_getN (D := G.1) (ci := 5) (v := .ref (ad (o+1+20))) (C := RX5) (T := TX5) (N := 11) hx hb hts hiX5 hown hY.1 hQ3 0 rfl rfl 5 (by decide) (va_Nw.use rfl (hY.2.1 (.fieldLinkNest RX6 157 RX5 "priorities" "LReservoirReed$Priorities;" RX6) (List.mem_of_getElem? (i := 9) rfl))) (fun _ h9 => h9) rfl dX6_prioritiesOf_33 ?_
    have eW4 : (wRR G ad o (k, s0, s1, priStart k mp, md)) = ((ad o, .inr (6, [.ref (ad (o+1)), .ref (ad (o+32)), .ref (ad (o+63)), .ref (ad (o+68)), .int k])) :: (wStr G ad (o+1) s0 ++ (wStr G ad (o+32) s1)) : va_W) ++ ((wPri G ad (o+63) (priStart k mp)) ++ (wDis G ad (o+68) md : va_W)) := by simp only [wRR, List.cons_append, List.append_assoc, List.nil_append, List.append_nil]
    rw [eW4] at hP hD
    have hv4 : ((ad o, .inr (6, [.ref (ad (o+1)), .ref (ad (o+32)), .ref (ad (o+63)), .ref (ad (o+68)), .int k])) :: (wStr G ad (o+1) s0 ++ (wStr G ad (o+32) s1)) : va_W) ++ (wDis G ad (o+68) md : va_W) = ((ad o, .inr (6, [.ref (ad (o+1)), .ref (ad (o+32)), .ref (ad (o+63)), .ref (ad (o+68)), .int k])) :: ((ad (o+1), .inr (5, [.ref (ad (o+1+1)), .ref (ad (o+1+4)), .ref (ad (o+1+8)), .ref (ad (o+1+12)), .ref (ad (o+1+16)), .ref (ad (o+1+20)), .ref (ad (o+1+25)), .ref (ad (o+1+28)), .int s0.1, .int s0.2.1, .int s0.2.2.1])) :: (wRes G ad (o+1+1) s0.2.2.2.1 ++ (wGrp G ad (o+1+4) s0.2.2.2.2.1 ++ (wGrp G ad (o+1+8) s0.2.2.2.2.2.1 ++ (wGrp G ad (o+1+12) s0.2.2.2.2.2.2.1 ++ (wGrp G ad (o+1+16) s0.2.2.2.2.2.2.2.1)))))) : va_W) ++ ((wPri G ad (o+1+20) s0.2.2.2.2.2.2.2.2.1) ++ (wDis G ad (o+1+25) s0.2.2.2.2.2.2.2.2.2.1 ++ (wCha G ad (o+1+28) s0.2.2.2.2.2.2.2.2.2.2 ++ (wStr G ad (o+32) s1 ++ (wDis G ad (o+68) md))) : va_W)) := by simp only [wStr, List.cons_append, List.append_assoc, List.nil_append, List.append_nil]
    refine wrV2 _ (wPri G ad (o+63) (priStart k mp)) _ (wPri G ad (o+1+20) s0.2.2.2.2.2.2.2.2.1) _ _ (wPri G ad (o+63) (priAll (priStart k mp) s0.2.2.2.2.2.2.2.2.1)) hv4 (As := [.ref (ad (o+1+20))]) (rest := []) CF (k_X3_addAll l G ad (o+63) (o+1+20) (priStart k mp) s0.2.2.2.2.2.2.2.2.1) (cwV 1 hts gX6_prioritiesOf_X3_addAll rfl rfl rfl (by decide +kernel) ⟨Nat.le_of_ble_eq_true rfl, Nat.le_of_ble_eq_true rfl⟩) hP hD hS hA hY rfl rfl (fst_Pri _ _ _ _ _) rfl hl.1 rfl (lv_room (Nat.le_of_ble_eq_true rfl)) dX6_prioritiesOf_36 ⟨Nat.zero_le _, Nat.zero_le _⟩ (fun H locs hP hD hS => ?_)
    have eV4 : ((ad o, .inr (6, [.ref (ad (o+1)), .ref (ad (o+32)), .ref (ad (o+63)), .ref (ad (o+68)), .int k])) :: (wStr G ad (o+1) s0 ++ (wStr G ad (o+32) s1)) : va_W) ++ ((wPri G ad (o+63) (priAll (priStart k mp) s0.2.2.2.2.2.2.2.2.1)) ++ (wDis G ad (o+68) md : va_W)) = (wRR G ad o (k, s0, s1, priAll (priStart k mp) s0.2.2.2.2.2.2.2.2.1, md)) := by simp only [wRR, List.cons_append, List.append_assoc, List.nil_append, List.append_nil]
    rw [eV4] at hP hD
    refine lv_aload_n hx hb dX6_prioritiesOf_39 rfl (lv_at hl 0 rfl) ?_
    refine va_get (D := G.1) (ci := 6) (v := .ref (ad (o+63))) (C := RX6) (T := TX6) (N := 5) hx hb hts hiX6 hown hY.1 hP 0 rfl rfl 2 (by decide) kf22 (fun _ h9 => h9) rfl dX6_prioritiesOf_40 ?_
    refine lv_aload_n hx hb dX6_prioritiesOf_43 rfl (lv_at hl 0 rfl) ?_
    refine va_get (D := G.1) (ci := 6) (v := .ref (ad (o+32))) (C := RX6) (T := TX6) (N := 5) hx hb hts hiX6 hown hY.1 hP 0 rfl rfl 1 (by decide) kf16 (fun _ h9 => h9) rfl dX6_prioritiesOf_44 ?_
    have hQ5 := va_P.subm (u := wStr G ad (o+32) s1) (fun q h => by simp only [wRR, List.mem_cons, List.mem_append, h, true_or, or_true]) hP
    refine va_getN (D := G.1) (ci := 5) (v := .ref (ad (o+32+20))) (C := RX5) (T := TX5) (N := 11) hx hb hts hiX5 hown hY.1 hQ5 0 rfl rfl 5 (by decide) (va_Nw.use rfl (hY.2.1 (.fieldLinkNest RX6 157 RX5 "priorities" "LReservoirReed$Priorities;" RX6) (List.mem_of_getElem? (i := 9) rfl))) (fun _ h9 => h9) rfl dX6_prioritiesOf_47 ?_
    have eW6 : (wRR G ad o (k, s0, s1, priAll (priStart k mp) s0.2.2.2.2.2.2.2.2.1, md)) = ((ad o, .inr (6, [.ref (ad (o+1)), .ref (ad (o+32)), .ref (ad (o+63)), .ref (ad (o+68)), .int k])) :: (wStr G ad (o+1) s0 ++ (wStr G ad (o+32) s1)) : va_W) ++ ((wPri G ad (o+63) (priAll (priStart k mp) s0.2.2.2.2.2.2.2.2.1)) ++ (wDis G ad (o+68) md : va_W)) := by simp only [wRR, List.cons_append, List.append_assoc, List.nil_append, List.append_nil]
    rw [eW6] at hP hD
    have hv6 : ((ad o, .inr (6, [.ref (ad (o+1)), .ref (ad (o+32)), .ref (ad (o+63)), .ref (ad (o+68)), .int k])) :: (wStr G ad (o+1) s0 ++ (wStr G ad (o+32) s1)) : va_W) ++ (wDis G ad (o+68) md : va_W) = ((ad o, .inr (6, [.ref (ad (o+1)), .ref (ad (o+32)), .ref (ad (o+63)), .ref (ad (o+68)), .int k])) :: (wStr G ad (o+1) s0 ++ ((ad (o+32), .inr (5, [.ref (ad (o+32+1)), .ref (ad (o+32+4)), .ref (ad (o+32+8)), .ref (ad (o+32+12)), .ref (ad (o+32+16)), .ref (ad (o+32+20)), .ref (ad (o+32+25)), .ref (ad (o+32+28)), .int s1.1, .int s1.2.1, .int s1.2.2.1])) :: (wRes G ad (o+32+1) s1.2.2.2.1 ++ (wGrp G ad (o+32+4) s1.2.2.2.2.1 ++ (wGrp G ad (o+32+8) s1.2.2.2.2.2.1 ++ (wGrp G ad (o+32+12) s1.2.2.2.2.2.2.1 ++ (wGrp G ad (o+32+16) s1.2.2.2.2.2.2.2.1))))))) : va_W) ++ ((wPri G ad (o+32+20) s1.2.2.2.2.2.2.2.2.1) ++ (wDis G ad (o+32+25) s1.2.2.2.2.2.2.2.2.2.1 ++ (wCha G ad (o+32+28) s1.2.2.2.2.2.2.2.2.2.2 ++ (wDis G ad (o+68) md)) : va_W)) := by simp only [wStr, List.cons_append, List.append_assoc, List.nil_append, List.append_nil]
    refine wrV2 _ (wPri G ad (o+63) (priAll (priStart k mp) s0.2.2.2.2.2.2.2.2.1)) _ (wPri G ad (o+32+20) s1.2.2.2.2.2.2.2.2.1) _ _ (wPri G ad (o+63) (priAll (priAll (priStart k mp) s0.2.2.2.2.2.2.2.2.1) s1.2.2.2.2.2.2.2.2.1)) hv6 (As := [.ref (ad (o+32+20))]) (rest := []) CF (k_X3_addAll l G ad (o+63) (o+32+20) (priAll (priStart k mp) s0.2.2.2.2.2.2.2.2.1) s1.2.2.2.2.2.2.2.2.1) (cwV 1 hts gX6_prioritiesOf_X3_addAll rfl rfl rfl (by decide +kernel) ⟨Nat.le_of_ble_eq_true rfl, Nat.le_of_ble_eq_true rfl⟩) hP hD hS hA hY rfl rfl (fst_Pri _ _ _ _ _) rfl hl.1 rfl (lv_room (Nat.le_of_ble_eq_true rfl)) dX6_prioritiesOf_50 ⟨Nat.zero_le _, Nat.zero_le _⟩ (fun H locs hP hD hS => ?_)
    have eV6 : ((ad o, .inr (6, [.ref (ad (o+1)), .ref (ad (o+32)), .ref (ad (o+63)), .ref (ad (o+68)), .int k])) :: (wStr G ad (o+1) s0 ++ (wStr G ad (o+32) s1)) : va_W) ++ ((wPri G ad (o+63) (priAll (priAll (priStart k mp) s0.2.2.2.2.2.2.2.2.1) s1.2.2.2.2.2.2.2.2.1)) ++ (wDis G ad (o+68) md : va_W)) = (wRR G ad o (k, s0, s1, priAll (priAll (priStart k mp) s0.2.2.2.2.2.2.2.2.1) s1.2.2.2.2.2.2.2.2.1, md)) := by simp only [wRR, List.cons_append, List.append_assoc, List.nil_append, List.append_nil]
    rw [eV6] at hP hD
    refine lv_aload_n hx hb dX6_prioritiesOf_53 rfl (lv_at hl 0 rfl) ?_
    refine va_get (D := G.1) (ci := 6) (v := .ref (ad (o+63))) (C := RX6) (T := TX6) (N := 5) hx hb hts hiX6 hown hY.1 hP 0 rfl rfl 2 (by decide) kf22 (fun _ h9 => h9) rfl dX6_prioritiesOf_54 ?_
    exact wr_aret hx hb hr hlk (Or.inl ⟨_, rfl⟩) hS hP (by first | with_reducible rfl | (simp only [rrMP, rrPriM, q0, sld_eq, eq_true h2_1, ↓reduceIte]; done)) (by first | with_reducible rfl | (simp only [rrMP, rrPriM, q0, sld_eq, eq_true h2_1, ↓reduceIte]; done)) dX6_prioritiesOf_57
  · exact absurd q0 h2_1

set_option maxHeartbeats 4000000 in
set_option maxRecDepth 100000 in
theorem k0_X6_prioritiesOf (l : Launch) (G : GT) (ad : Nat → Nat) (o : Nat) (sg : RRT) (st : Int32) (q0 : ¬ st = 2) (q1 : st = 0) : Rd l yX6_prioritiesOf wsX6_prioritiesOf { frames := 5, cells := 0, slots := 0, locals := 115 } G (wRR G ad o sg) [.ref (ad o), .int st] (.ref (ad (o+1+20))) := by
  obtain ⟨k, s0, s1, mp, md⟩ := sg
  refine Met.ofW (cc := cX6_prioritiesOf) (maxL := 2) (ret := (some (.object "ReservoirReed$Priorities"))) (by decide) rfl ?_
  intro p e s m args below meth c s₁ B hml hv
  obtain ⟨rfl, hP, hY⟩ := hv
  have hx := B.exec
  have hb := B.bytes
  have hr := B.returns
  have hts := atoms_spec (ws := wsX6_prioritiesOf) B.pre
  have hown : s.vm.findClass RX6 = some m.cls := findClass_of_methodNamed B.named
  have hlk := B.notSynchronized
  have CF : CallFix p m c cX6_prioritiesOf 2 s _ wsX6_prioritiesOf RX6 := ⟨hx, hb, hml, hown, hts⟩
  have hiX5 : ∀ w ∈ wsX50, w ∈ wsX6_prioritiesOf := fun w h => (List.mem_cons_of_mem _ (List.mem_append_left _ (List.mem_append_left _ (List.mem_append_right _ h))))
  have hl := lv_entry ([.ref (ad o), .int st]) (n := 2) (Nat.le_of_ble_eq_true rfl)
  rw [lg_entry_eq]
  generalize (lg_sl ([.ref (ad o), .int st]) ++ List.replicate (2 - (lg_sl ([.ref (ad o), .int st])).length) Slot.unset).toArray = ls at hl ⊢
  have hl : lv_has ls 2 [(0, .ref (ad o)), (1, .int st)] := hl
  refine lv_iload_n hx hb dX6_prioritiesOf_0 rfl (lv_at hl 1 rfl) ?_
  refine lv_iconst (v := 2) hx hb dX6_prioritiesOf_1 (by decide) ?_
  refine lv_icmp_eq (tgt := 14) hx hb dX6_prioritiesOf_2 (by decide) (fun h2_1 => ?_) (fun h2_1 => ?_)
  · exact absurd h2_1 q0
  · refine lv_aload_n hx hb dX6_prioritiesOf_5 rfl (lv_at hl 0 rfl) ?_
    refine lv_iload_n hx hb dX6_prioritiesOf_6 rfl (lv_at hl 1 rfl) ?_
    refine rdV (w0 := (wRR G ad o (k, s0, s1, mp, md))) (As := [.int st]) (rest := []) CF (k0_X6_streamOf l G ad o (k, s0, s1, mp, md) st q1) (cwV 1 hts gX6_prioritiesOf_X6_streamOf rfl rfl rfl (by decide +kernel) ⟨Nat.le_of_ble_eq_true rfl, Nat.le_of_ble_eq_true rfl⟩) hP hY rfl rfl rfl hl.1 rfl (lv_room (Nat.le_of_ble_eq_true rfl)) dX6_prioritiesOf_7 ⟨Nat.zero_le _, Nat.zero_le _⟩ ?_
    have hQ2 := va_P.subm (u := wStr G ad (o+1) s0) (fun q h => by simp only [wRR, List.mem_cons, List.mem_append, h, true_or, or_true]) hP
    refine va_getN (D := G.1) (ci := 5) (v := .ref (ad (o+1+20))) (C := RX5) (T := TX5) (N := 11) hx hb hts hiX5 hown hY.1 hQ2 0 rfl rfl 5 (by decide) (va_Nw.use rfl (hY.2.1 (.fieldLinkNest RX6 157 RX5 "priorities" "LReservoirReed$Priorities;" RX6) (List.mem_of_getElem? (i := 9) rfl))) (fun _ h9 => h9) rfl dX6_prioritiesOf_10 ?_
    exact rd_aret hx hb hr hlk (Or.inl ⟨_, rfl⟩) (by first | with_reducible rfl | (simp only [sld_eq, h2_1, ↓reduceIte]; done)) dX6_prioritiesOf_13

set_option maxHeartbeats 4000000 in
set_option maxRecDepth 100000 in
theorem k1_X6_prioritiesOf (l : Launch) (G : GT) (ad : Nat → Nat) (o : Nat) (sg : RRT) (st : Int32) (q0 : ¬ st = 2) (q1 : ¬ st = 0) : Rd l yX6_prioritiesOf wsX6_prioritiesOf { frames := 5, cells := 0, slots := 0, locals := 115 } G (wRR G ad o sg) [.ref (ad o), .int st] (.ref (ad (o+32+20))) := by
  obtain ⟨k, s0, s1, mp, md⟩ := sg
  refine Met.ofW (cc := cX6_prioritiesOf) (maxL := 2) (ret := (some (.object "ReservoirReed$Priorities"))) (by decide) rfl ?_
  intro p e s m args below meth c s₁ B hml hv
  obtain ⟨rfl, hP, hY⟩ := hv
  have hx := B.exec
  have hb := B.bytes
  have hr := B.returns
  have hts := atoms_spec (ws := wsX6_prioritiesOf) B.pre
  have hown : s.vm.findClass RX6 = some m.cls := findClass_of_methodNamed B.named
  have hlk := B.notSynchronized
  have CF : CallFix p m c cX6_prioritiesOf 2 s _ wsX6_prioritiesOf RX6 := ⟨hx, hb, hml, hown, hts⟩
  have hiX5 : ∀ w ∈ wsX50, w ∈ wsX6_prioritiesOf := fun w h => (List.mem_cons_of_mem _ (List.mem_append_left _ (List.mem_append_left _ (List.mem_append_right _ h))))
  have hl := lv_entry ([.ref (ad o), .int st]) (n := 2) (Nat.le_of_ble_eq_true rfl)
  rw [lg_entry_eq]
  generalize (lg_sl ([.ref (ad o), .int st]) ++ List.replicate (2 - (lg_sl ([.ref (ad o), .int st])).length) Slot.unset).toArray = ls at hl ⊢
  have hl : lv_has ls 2 [(0, .ref (ad o)), (1, .int st)] := hl
  refine lv_iload_n hx hb dX6_prioritiesOf_0 rfl (lv_at hl 1 rfl) ?_
  refine lv_iconst (v := 2) hx hb dX6_prioritiesOf_1 (by decide) ?_
  refine lv_icmp_eq (tgt := 14) hx hb dX6_prioritiesOf_2 (by decide) (fun h2_1 => ?_) (fun h2_1 => ?_)
  · exact absurd h2_1 q0
  · refine lv_aload_n hx hb dX6_prioritiesOf_5 rfl (lv_at hl 0 rfl) ?_
    refine lv_iload_n hx hb dX6_prioritiesOf_6 rfl (lv_at hl 1 rfl) ?_
    refine rdV (w0 := (wRR G ad o (k, s0, s1, mp, md))) (As := [.int st]) (rest := []) CF (k1_X6_streamOf l G ad o (k, s0, s1, mp, md) st q1) (cwV 1 hts gX6_prioritiesOf_X6_streamOf rfl rfl rfl (by decide +kernel) ⟨Nat.le_of_ble_eq_true rfl, Nat.le_of_ble_eq_true rfl⟩) hP hY rfl rfl rfl hl.1 rfl (lv_room (Nat.le_of_ble_eq_true rfl)) dX6_prioritiesOf_7 ⟨Nat.zero_le _, Nat.zero_le _⟩ ?_
    have hQ2 := va_P.subm (u := wStr G ad (o+32) s1) (fun q h => by simp only [wRR, List.mem_cons, List.mem_append, h, true_or, or_true]) hP
    refine va_getN (D := G.1) (ci := 5) (v := .ref (ad (o+32+20))) (C := RX5) (T := TX5) (N := 11) hx hb hts hiX5 hown hY.1 hQ2 0 rfl rfl 5 (by decide) (va_Nw.use rfl (hY.2.1 (.fieldLinkNest RX6 157 RX5 "priorities" "LReservoirReed$Priorities;" RX6) (List.mem_of_getElem? (i := 9) rfl))) (fun _ h9 => h9) rfl dX6_prioritiesOf_10 ?_
    exact rd_aret hx hb hr hlk (Or.inl ⟨_, rfl⟩) (by first | with_reducible rfl | (simp only [sld_eq, h2_1, ↓reduceIte]; done)) dX6_prioritiesOf_13

set_option maxHeartbeats 4000000 in
set_option maxRecDepth 100000 in
theorem k2_X6_distinctOf (l : Launch) (G : GT) (ad : Nat → Nat) (o : Nat) (sg : RRT) (st : Int32) (q0 : st = 2) : Wr l yX6_distinctOf wsX6_distinctOf { frames := 4, cells := 0, slots := 0, locals := 92 } G (wRR G ad o sg) (wRR G ad o (rrMD sg st)) [.ref (ad o), .int st] (some (.ref (ad (o+68)))) := by
  intro sz
  obtain ⟨k, s0, s1, mp, md⟩ := sg
  refine Met.ofW (cc := cX6_distinctOf) (maxL := 2) (ret := (some (.object "ReservoirReed$Distinct"))) (by decide) rfl ?_
  intro p e s m args below meth c s₁ B hml hv
  obtain ⟨rfl, hsz, hP, hY, hD0⟩ := hv
  subst hsz
  have hD := hD0.self (sz := s.heap.size)
  generalize hAe : va_A (wRR G ad o (k, s0, s1, mp, md)) s.heap.size = A at hD ⊢
  have hA : ∀ q : Nat, s.heap.size ≤ q → A q := fun q h => by rw [← hAe]; exact Or.inr h
  have hS : va_S A s.heap s.heap [] := va_S.rf
  have hx := B.exec
  have hb := B.bytes
  have hr := B.returns
  have hts := atoms_spec (ws := wsX6_distinctOf) B.pre
  have hown : s.vm.findClass RX6 = some m.cls := findClass_of_methodNamed B.named
  have hlk := B.notSynchronized
  have CF : CallFix p m c cX6_distinctOf 2 s _ wsX6_distinctOf RX6 := ⟨hx, hb, hml, hown, hts⟩
  have hiX6 : ∀ w ∈ wsX60, w ∈ wsX6_distinctOf := fun w h => (List.mem_cons_of_mem _ (List.mem_append_left _ (List.mem_append_right _ h)))
  have kf29 := hts (.fieldLink RX6 29 "ReservoirReed" "mergedDistinct" "LReservoirReed$Distinct;") (List.mem_cons_of_mem _ (List.mem_append_left _ (List.mem_append_left _ (List.mem_append_left _ (List.mem_append_left _ (List.mem_of_getElem? (i := 0) rfl))))))
  have kf155 := hts (.fieldLink RX6 153 "ReservoirReed" "size" "I") (List.mem_cons_of_mem _ (List.mem_append_left _ (List.mem_append_left _ (List.mem_append_left _ (List.mem_append_left _ (List.mem_of_getElem? (i := 1) rfl))))))
  have kf10 := hts (.fieldLink RX6 10 "ReservoirReed" "stream0" "LReservoirReed$Stream;") (List.mem_cons_of_mem _ (List.mem_append_left _ (List.mem_append_left _ (List.mem_append_left _ (List.mem_append_left _ (List.mem_of_getElem? (i := 2) rfl))))))
  have hiX5 : ∀ w ∈ wsX50, w ∈ wsX6_distinctOf := fun w h => (List.mem_cons_of_mem _ (List.mem_append_left _ (List.mem_append_left _ (List.mem_append_right _ h))))
  have kf16 := hts (.fieldLink RX6 16 "ReservoirReed" "stream1" "LReservoirReed$Stream;") (List.mem_cons_of_mem _ (List.mem_append_left _ (List.mem_append_left _ (List.mem_append_left _ (List.mem_append_left _ (List.mem_of_getElem? (i := 3) rfl))))))
  have hl := lv_entry ([.ref (ad o), .int st]) (n := 2) (Nat.le_of_ble_eq_true rfl)
  rw [lg_entry_eq]
  generalize (lg_sl ([.ref (ad o), .int st]) ++ List.replicate (2 - (lg_sl ([.ref (ad o), .int st])).length) Slot.unset).toArray = ls at hl ⊢
  have hl : lv_has ls 2 [(0, .ref (ad o)), (1, .int st)] := hl
  refine lv_iload_n hx hb dX6_distinctOf_0 rfl (lv_at hl 1 rfl) ?_
  refine lv_iconst (v := 2) hx hb dX6_distinctOf_1 (by decide) ?_
  refine lv_icmp_eq (tgt := 14) hx hb dX6_distinctOf_2 (by decide) (fun h2_1 => ?_) (fun h2_1 => ?_)
  · refine lv_aload_n hx hb dX6_distinctOf_14 rfl (lv_at hl 0 rfl) ?_
    refine va_get (D := G.1) (ci := 6) (v := .ref (ad (o+68))) (C := RX6) (T := TX6) (N := 5) hx hb hts hiX6 hown hY.1 hP 0 rfl rfl 3 (by decide) kf29 (fun _ h9 => h9) rfl dX6_distinctOf_15 ?_
    refine lv_aload_n hx hb dX6_distinctOf_18 rfl (lv_at hl 0 rfl) ?_
    refine va_get (D := G.1) (ci := 6) (v := .int k) (C := RX6) (T := TX6) (N := 5) hx hb hts hiX6 hown hY.1 hP 0 rfl rfl 4 (by decide) kf155 (fun _ h9 => h9) rfl dX6_distinctOf_19 ?_
    have eW2 : (wRR G ad o (k, s0, s1, mp, md)) = (((ad o, .inr (6, [.ref (ad (o+1)), .ref (ad (o+32)), .ref (ad (o+63)), .ref (ad (o+68)), .int k]))) :: (wStr G ad (o+1) s0 ++ (wStr G ad (o+32) s1 ++ (wPri G ad (o+63) mp))) : va_W) ++ ((wDis G ad (o+68) md) ++ ([] : va_W)) := by simp only [wRR, List.cons_append, List.append_assoc, List.nil_append, List.append_nil]
    rw [eW2] at hP hD
    refine wrV (((ad o, .inr (6, [.ref (ad (o+1)), .ref (ad (o+32)), .ref (ad (o+63)), .ref (ad (o+68)), .int k]))) :: (wStr G ad (o+1) s0 ++ (wStr G ad (o+32) s1 ++ (wPri G ad (o+63) mp))) : va_W) (wDis G ad (o+68) md) ([] : va_W) (wDis G ad (o+68) (disStart k md)) (As := [.int k]) (rest := []) CF (k_X1_startAgain l G ad (o+68) md k) (cwV 1 hts gX6_distinctOf_X1_startAgain rfl rfl rfl (by decide +kernel) ⟨Nat.le_of_ble_eq_true rfl, Nat.le_of_ble_eq_true rfl⟩) hP hD hS hA hY rfl rfl (fst_Dis _ _ _ _ _) rfl hl.1 rfl (lv_room (Nat.le_of_ble_eq_true rfl)) dX6_distinctOf_22 ⟨Nat.zero_le _, Nat.zero_le _⟩ (fun H locs hP hD hS => ?_)
    have eV2 : (((ad o, .inr (6, [.ref (ad (o+1)), .ref (ad (o+32)), .ref (ad (o+63)), .ref (ad (o+68)), .int k]))) :: (wStr G ad (o+1) s0 ++ (wStr G ad (o+32) s1 ++ (wPri G ad (o+63) mp))) : va_W) ++ ((wDis G ad (o+68) (disStart k md)) ++ ([] : va_W)) = (wRR G ad o (k, s0, s1, mp, disStart k md)) := by simp only [wRR, List.cons_append, List.append_assoc, List.nil_append, List.append_nil]
    rw [eV2] at hP hD
    refine lv_aload_n hx hb dX6_distinctOf_25 rfl (lv_at hl 0 rfl) ?_
    refine va_get (D := G.1) (ci := 6) (v := .ref (ad (o+68))) (C := RX6) (T := TX6) (N := 5) hx hb hts hiX6 hown hY.1 hP 0 rfl rfl 3 (by decide) kf29 (fun _ h9 => h9) rfl dX6_distinctOf_26 ?_
    refine lv_aload_n hx hb dX6_distinctOf_29 rfl (lv_at hl 0 rfl) ?_
    refine va_get (D := G.1) (ci := 6) (v := .ref (ad (o+1))) (C := RX6) (T := TX6) (N := 5) hx hb hts hiX6 hown hY.1 hP 0 rfl rfl 0 (by decide) kf10 (fun _ h9 => h9) rfl dX6_distinctOf_30 ?_
    have hQ3 := va_P.subm (u := wStr G ad (o+1) s0) (fun q h => by simp only [wRR, List.mem_cons, List.mem_append, h, true_or, or_true]) hP
    refine va_getN (D := G.1) (ci := 5) (v := .ref (ad (o+1+25))) (C := RX5) (T := TX5) (N := 11) hx hb hts hiX5 hown hY.1 hQ3 0 rfl rfl 6 (by decide) (va_Nw.use rfl (hY.2.1 (.fieldLinkNest RX6 167 RX5 "distinct" "LReservoirReed$Distinct;" RX6) (List.mem_of_getElem? (i := 10) rfl))) (fun _ h9 => h9) rfl dX6_distinctOf_33 ?_
    have eW4 : (wRR G ad o (k, s0, s1, mp, disStart k md)) = ((ad o, .inr (6, [.ref (ad (o+1)), .ref (ad (o+32)), .ref (ad (o+63)), .ref (ad (o+68)), .int k])) :: (wStr G ad (o+1) s0 ++ (wStr G ad (o+32) s1 ++ (wPri G ad (o+63) mp))) : va_W) ++ ((wDis G ad (o+68) (disStart k md)) ++ ([] : va_W)) := by simp only [wRR, List.cons_append, List.append_assoc, List.nil_append, List.append_nil]
    rw [eW4] at hP hD
    have hv4 : ((ad o, .inr (6, [.ref (ad (o+1)), .ref (ad (o+32)), .ref (ad (o+63)), .ref (ad (o+68)), .int k])) :: (wStr G ad (o+1) s0 ++ (wStr G ad (o+32) s1 ++ (wPri G ad (o+63) mp))) : va_W) ++ ([] : va_W) = ((ad o, .inr (6, [.ref (ad (o+1)), .ref (ad (o+32)), .ref (ad (o+63)), .ref (ad (o+68)), .int k])) :: ((ad (o+1), .inr (5, [.ref (ad (o+1+1)), .ref (ad (o+1+4)), .ref (ad (o+1+8)), .ref (ad (o+1+12)), .ref (ad (o+1+16)), .ref (ad (o+1+20)), .ref (ad (o+1+25)), .ref (ad (o+1+28)), .int s0.1, .int s0.2.1, .int s0.2.2.1])) :: (wRes G ad (o+1+1) s0.2.2.2.1 ++ (wGrp G ad (o+1+4) s0.2.2.2.2.1 ++ (wGrp G ad (o+1+8) s0.2.2.2.2.2.1 ++ (wGrp G ad (o+1+12) s0.2.2.2.2.2.2.1 ++ (wGrp G ad (o+1+16) s0.2.2.2.2.2.2.2.1 ++ (wPri G ad (o+1+20) s0.2.2.2.2.2.2.2.2.1))))))) : va_W) ++ ((wDis G ad (o+1+25) s0.2.2.2.2.2.2.2.2.2.1) ++ (wCha G ad (o+1+28) s0.2.2.2.2.2.2.2.2.2.2 ++ (wStr G ad (o+32) s1 ++ (wPri G ad (o+63) mp)) : va_W)) := by simp only [wStr, List.cons_append, List.append_assoc, List.nil_append, List.append_nil]
    refine wrV2 _ (wDis G ad (o+68) (disStart k md)) _ (wDis G ad (o+1+25) s0.2.2.2.2.2.2.2.2.2.1) _ _ (wDis G ad (o+68) (disAll (disStart k md) s0.2.2.2.2.2.2.2.2.2.1)) hv4 (As := [.ref (ad (o+1+25))]) (rest := []) CF (k_X1_addAll l G ad (o+68) (o+1+25) (disStart k md) s0.2.2.2.2.2.2.2.2.2.1) (cwV 1 hts gX6_distinctOf_X1_addAll rfl rfl rfl (by decide +kernel) ⟨Nat.le_of_ble_eq_true rfl, Nat.le_of_ble_eq_true rfl⟩) hP hD hS hA hY rfl rfl (fst_Dis _ _ _ _ _) rfl hl.1 rfl (lv_room (Nat.le_of_ble_eq_true rfl)) dX6_distinctOf_36 ⟨Nat.zero_le _, Nat.zero_le _⟩ (fun H locs hP hD hS => ?_)
    have eV4 : ((ad o, .inr (6, [.ref (ad (o+1)), .ref (ad (o+32)), .ref (ad (o+63)), .ref (ad (o+68)), .int k])) :: (wStr G ad (o+1) s0 ++ (wStr G ad (o+32) s1 ++ (wPri G ad (o+63) mp))) : va_W) ++ ((wDis G ad (o+68) (disAll (disStart k md) s0.2.2.2.2.2.2.2.2.2.1)) ++ ([] : va_W)) = (wRR G ad o (k, s0, s1, mp, disAll (disStart k md) s0.2.2.2.2.2.2.2.2.2.1)) := by simp only [wRR, List.cons_append, List.append_assoc, List.nil_append, List.append_nil]
    rw [eV4] at hP hD
    refine lv_aload_n hx hb dX6_distinctOf_39 rfl (lv_at hl 0 rfl) ?_
    refine va_get (D := G.1) (ci := 6) (v := .ref (ad (o+68))) (C := RX6) (T := TX6) (N := 5) hx hb hts hiX6 hown hY.1 hP 0 rfl rfl 3 (by decide) kf29 (fun _ h9 => h9) rfl dX6_distinctOf_40 ?_
    refine lv_aload_n hx hb dX6_distinctOf_43 rfl (lv_at hl 0 rfl) ?_
    refine va_get (D := G.1) (ci := 6) (v := .ref (ad (o+32))) (C := RX6) (T := TX6) (N := 5) hx hb hts hiX6 hown hY.1 hP 0 rfl rfl 1 (by decide) kf16 (fun _ h9 => h9) rfl dX6_distinctOf_44 ?_
    have hQ5 := va_P.subm (u := wStr G ad (o+32) s1) (fun q h => by simp only [wRR, List.mem_cons, List.mem_append, h, true_or, or_true]) hP
    refine va_getN (D := G.1) (ci := 5) (v := .ref (ad (o+32+25))) (C := RX5) (T := TX5) (N := 11) hx hb hts hiX5 hown hY.1 hQ5 0 rfl rfl 6 (by decide) (va_Nw.use rfl (hY.2.1 (.fieldLinkNest RX6 167 RX5 "distinct" "LReservoirReed$Distinct;" RX6) (List.mem_of_getElem? (i := 10) rfl))) (fun _ h9 => h9) rfl dX6_distinctOf_47 ?_
    have eW6 : (wRR G ad o (k, s0, s1, mp, disAll (disStart k md) s0.2.2.2.2.2.2.2.2.2.1)) = ((ad o, .inr (6, [.ref (ad (o+1)), .ref (ad (o+32)), .ref (ad (o+63)), .ref (ad (o+68)), .int k])) :: (wStr G ad (o+1) s0 ++ (wStr G ad (o+32) s1 ++ (wPri G ad (o+63) mp))) : va_W) ++ ((wDis G ad (o+68) (disAll (disStart k md) s0.2.2.2.2.2.2.2.2.2.1)) ++ ([] : va_W)) := by simp only [wRR, List.cons_append, List.append_assoc, List.nil_append, List.append_nil]
    rw [eW6] at hP hD
    have hv6 : ((ad o, .inr (6, [.ref (ad (o+1)), .ref (ad (o+32)), .ref (ad (o+63)), .ref (ad (o+68)), .int k])) :: (wStr G ad (o+1) s0 ++ (wStr G ad (o+32) s1 ++ (wPri G ad (o+63) mp))) : va_W) ++ ([] : va_W) = ((ad o, .inr (6, [.ref (ad (o+1)), .ref (ad (o+32)), .ref (ad (o+63)), .ref (ad (o+68)), .int k])) :: (wStr G ad (o+1) s0 ++ ((ad (o+32), .inr (5, [.ref (ad (o+32+1)), .ref (ad (o+32+4)), .ref (ad (o+32+8)), .ref (ad (o+32+12)), .ref (ad (o+32+16)), .ref (ad (o+32+20)), .ref (ad (o+32+25)), .ref (ad (o+32+28)), .int s1.1, .int s1.2.1, .int s1.2.2.1])) :: (wRes G ad (o+32+1) s1.2.2.2.1 ++ (wGrp G ad (o+32+4) s1.2.2.2.2.1 ++ (wGrp G ad (o+32+8) s1.2.2.2.2.2.1 ++ (wGrp G ad (o+32+12) s1.2.2.2.2.2.2.1 ++ (wGrp G ad (o+32+16) s1.2.2.2.2.2.2.2.1 ++ (wPri G ad (o+32+20) s1.2.2.2.2.2.2.2.2.1)))))))) : va_W) ++ ((wDis G ad (o+32+25) s1.2.2.2.2.2.2.2.2.2.1) ++ (wCha G ad (o+32+28) s1.2.2.2.2.2.2.2.2.2.2 ++ (wPri G ad (o+63) mp) : va_W)) := by simp only [wStr, List.cons_append, List.append_assoc, List.nil_append, List.append_nil]
    refine wrV2 _ (wDis G ad (o+68) (disAll (disStart k md) s0.2.2.2.2.2.2.2.2.2.1)) _ (wDis G ad (o+32+25) s1.2.2.2.2.2.2.2.2.2.1) _ _ (wDis G ad (o+68) (disAll (disAll (disStart k md) s0.2.2.2.2.2.2.2.2.2.1) s1.2.2.2.2.2.2.2.2.2.1)) hv6 (As := [.ref (ad (o+32+25))]) (rest := []) CF (k_X1_addAll l G ad (o+68) (o+32+25) (disAll (disStart k md) s0.2.2.2.2.2.2.2.2.2.1) s1.2.2.2.2.2.2.2.2.2.1) (cwV 1 hts gX6_distinctOf_X1_addAll rfl rfl rfl (by decide +kernel) ⟨Nat.le_of_ble_eq_true rfl, Nat.le_of_ble_eq_true rfl⟩) hP hD hS hA hY rfl rfl (fst_Dis _ _ _ _ _) rfl hl.1 rfl (lv_room (Nat.le_of_ble_eq_true rfl)) dX6_distinctOf_50 ⟨Nat.zero_le _, Nat.zero_le _⟩ (fun H locs hP hD hS => ?_)
    have eV6 : ((ad o, .inr (6, [.ref (ad (o+1)), .ref (ad (o+32)), .ref (ad (o+63)), .ref (ad (o+68)), .int k])) :: (wStr G ad (o+1) s0 ++ (wStr G ad (o+32) s1 ++ (wPri G ad (o+63) mp))) : va_W) ++ ((wDis G ad (o+68) (disAll (disAll (disStart k md) s0.2.2.2.2.2.2.2.2.2.1) s1.2.2.2.2.2.2.2.2.2.1)) ++ ([] : va_W)) = (wRR G ad o (k, s0, s1, mp, disAll (disAll (disStart k md) s0.2.2.2.2.2.2.2.2.2.1) s1.2.2.2.2.2.2.2.2.2.1)) := by simp only [wRR, List.cons_append, List.append_assoc, List.nil_append, List.append_nil]
    rw [eV6] at hP hD
    refine lv_aload_n hx hb dX6_distinctOf_53 rfl (lv_at hl 0 rfl) ?_
    refine va_get (D := G.1) (ci := 6) (v := .ref (ad (o+68))) (C := RX6) (T := TX6) (N := 5) hx hb hts hiX6 hown hY.1 hP 0 rfl rfl 3 (by decide) kf29 (fun _ h9 => h9) rfl dX6_distinctOf_54 ?_
    exact wr_aret hx hb hr hlk (Or.inl ⟨_, rfl⟩) hS hP (by first | with_reducible rfl | (simp only [rrMD, rrDisM, q0, sld_eq, eq_true h2_1, ↓reduceIte]; done)) (by first | with_reducible rfl | (simp only [rrMD, rrDisM, q0, sld_eq, eq_true h2_1, ↓reduceIte]; done)) dX6_distinctOf_57
  · exact absurd q0 h2_1

set_option maxHeartbeats 4000000 in
set_option maxRecDepth 100000 in
theorem k0_X6_distinctOf (l : Launch) (G : GT) (ad : Nat → Nat) (o : Nat) (sg : RRT) (st : Int32) (q0 : ¬ st = 2) (q1 : st = 0) : Rd l yX6_distinctOf wsX6_distinctOf { frames := 4, cells := 0, slots := 0, locals := 92 } G (wRR G ad o sg) [.ref (ad o), .int st] (.ref (ad (o+1+25))) := by
  obtain ⟨k, s0, s1, mp, md⟩ := sg
  refine Met.ofW (cc := cX6_distinctOf) (maxL := 2) (ret := (some (.object "ReservoirReed$Distinct"))) (by decide) rfl ?_
  intro p e s m args below meth c s₁ B hml hv
  obtain ⟨rfl, hP, hY⟩ := hv
  have hx := B.exec
  have hb := B.bytes
  have hr := B.returns
  have hts := atoms_spec (ws := wsX6_distinctOf) B.pre
  have hown : s.vm.findClass RX6 = some m.cls := findClass_of_methodNamed B.named
  have hlk := B.notSynchronized
  have CF : CallFix p m c cX6_distinctOf 2 s _ wsX6_distinctOf RX6 := ⟨hx, hb, hml, hown, hts⟩
  have hiX5 : ∀ w ∈ wsX50, w ∈ wsX6_distinctOf := fun w h => (List.mem_cons_of_mem _ (List.mem_append_left _ (List.mem_append_left _ (List.mem_append_right _ h))))
  have hl := lv_entry ([.ref (ad o), .int st]) (n := 2) (Nat.le_of_ble_eq_true rfl)
  rw [lg_entry_eq]
  generalize (lg_sl ([.ref (ad o), .int st]) ++ List.replicate (2 - (lg_sl ([.ref (ad o), .int st])).length) Slot.unset).toArray = ls at hl ⊢
  have hl : lv_has ls 2 [(0, .ref (ad o)), (1, .int st)] := hl
  refine lv_iload_n hx hb dX6_distinctOf_0 rfl (lv_at hl 1 rfl) ?_
  refine lv_iconst (v := 2) hx hb dX6_distinctOf_1 (by decide) ?_
  refine lv_icmp_eq (tgt := 14) hx hb dX6_distinctOf_2 (by decide) (fun h2_1 => ?_) (fun h2_1 => ?_)
  · exact absurd h2_1 q0
  · refine lv_aload_n hx hb dX6_distinctOf_5 rfl (lv_at hl 0 rfl) ?_
    refine lv_iload_n hx hb dX6_distinctOf_6 rfl (lv_at hl 1 rfl) ?_
    refine rdV (w0 := (wRR G ad o (k, s0, s1, mp, md))) (As := [.int st]) (rest := []) CF (k0_X6_streamOf l G ad o (k, s0, s1, mp, md) st q1) (cwV 1 hts gX6_distinctOf_X6_streamOf rfl rfl rfl (by decide +kernel) ⟨Nat.le_of_ble_eq_true rfl, Nat.le_of_ble_eq_true rfl⟩) hP hY rfl rfl rfl hl.1 rfl (lv_room (Nat.le_of_ble_eq_true rfl)) dX6_distinctOf_7 ⟨Nat.zero_le _, Nat.zero_le _⟩ ?_
    have hQ2 := va_P.subm (u := wStr G ad (o+1) s0) (fun q h => by simp only [wRR, List.mem_cons, List.mem_append, h, true_or, or_true]) hP
    refine va_getN (D := G.1) (ci := 5) (v := .ref (ad (o+1+25))) (C := RX5) (T := TX5) (N := 11) hx hb hts hiX5 hown hY.1 hQ2 0 rfl rfl 6 (by decide) (va_Nw.use rfl (hY.2.1 (.fieldLinkNest RX6 167 RX5 "distinct" "LReservoirReed$Distinct;" RX6) (List.mem_of_getElem? (i := 10) rfl))) (fun _ h9 => h9) rfl dX6_distinctOf_10 ?_
    exact rd_aret hx hb hr hlk (Or.inl ⟨_, rfl⟩) (by first | with_reducible rfl | (simp only [sld_eq, h2_1, ↓reduceIte]; done)) dX6_distinctOf_13

set_option maxHeartbeats 4000000 in
set_option maxRecDepth 100000 in
theorem k1_X6_distinctOf (l : Launch) (G : GT) (ad : Nat → Nat) (o : Nat) (sg : RRT) (st : Int32) (q0 : ¬ st = 2) (q1 : ¬ st = 0) : Rd l yX6_distinctOf wsX6_distinctOf { frames := 4, cells := 0, slots := 0, locals := 92 } G (wRR G ad o sg) [.ref (ad o), .int st] (.ref (ad (o+32+25))) := by
  obtain ⟨k, s0, s1, mp, md⟩ := sg
  refine Met.ofW (cc := cX6_distinctOf) (maxL := 2) (ret := (some (.object "ReservoirReed$Distinct"))) (by decide) rfl ?_
  intro p e s m args below meth c s₁ B hml hv
  obtain ⟨rfl, hP, hY⟩ := hv
  have hx := B.exec
  have hb := B.bytes
  have hr := B.returns
  have hts := atoms_spec (ws := wsX6_distinctOf) B.pre
  have hown : s.vm.findClass RX6 = some m.cls := findClass_of_methodNamed B.named
  have hlk := B.notSynchronized
  have CF : CallFix p m c cX6_distinctOf 2 s _ wsX6_distinctOf RX6 := ⟨hx, hb, hml, hown, hts⟩
  have hiX5 : ∀ w ∈ wsX50, w ∈ wsX6_distinctOf := fun w h => (List.mem_cons_of_mem _ (List.mem_append_left _ (List.mem_append_left _ (List.mem_append_right _ h))))
  have hl := lv_entry ([.ref (ad o), .int st]) (n := 2) (Nat.le_of_ble_eq_true rfl)
  rw [lg_entry_eq]
  generalize (lg_sl ([.ref (ad o), .int st]) ++ List.replicate (2 - (lg_sl ([.ref (ad o), .int st])).length) Slot.unset).toArray = ls at hl ⊢
  have hl : lv_has ls 2 [(0, .ref (ad o)), (1, .int st)] := hl
  refine lv_iload_n hx hb dX6_distinctOf_0 rfl (lv_at hl 1 rfl) ?_
  refine lv_iconst (v := 2) hx hb dX6_distinctOf_1 (by decide) ?_
  refine lv_icmp_eq (tgt := 14) hx hb dX6_distinctOf_2 (by decide) (fun h2_1 => ?_) (fun h2_1 => ?_)
  · exact absurd h2_1 q0
  · refine lv_aload_n hx hb dX6_distinctOf_5 rfl (lv_at hl 0 rfl) ?_
    refine lv_iload_n hx hb dX6_distinctOf_6 rfl (lv_at hl 1 rfl) ?_
    refine rdV (w0 := (wRR G ad o (k, s0, s1, mp, md))) (As := [.int st]) (rest := []) CF (k1_X6_streamOf l G ad o (k, s0, s1, mp, md) st q1) (cwV 1 hts gX6_distinctOf_X6_streamOf rfl rfl rfl (by decide +kernel) ⟨Nat.le_of_ble_eq_true rfl, Nat.le_of_ble_eq_true rfl⟩) hP hY rfl rfl rfl hl.1 rfl (lv_room (Nat.le_of_ble_eq_true rfl)) dX6_distinctOf_7 ⟨Nat.zero_le _, Nat.zero_le _⟩ ?_
    have hQ2 := va_P.subm (u := wStr G ad (o+32) s1) (fun q h => by simp only [wRR, List.mem_cons, List.mem_append, h, true_or, or_true]) hP
    refine va_getN (D := G.1) (ci := 5) (v := .ref (ad (o+32+25))) (C := RX5) (T := TX5) (N := 11) hx hb hts hiX5 hown hY.1 hQ2 0 rfl rfl 6 (by decide) (va_Nw.use rfl (hY.2.1 (.fieldLinkNest RX6 167 RX5 "distinct" "LReservoirReed$Distinct;" RX6) (List.mem_of_getElem? (i := 10) rfl))) (fun _ h9 => h9) rfl dX6_distinctOf_10 ?_
    exact rd_aret hx hb hr hlk (Or.inl ⟨_, rfl⟩) (by first | with_reducible rfl | (simp only [sld_eq, h2_1, ↓reduceIte]; done)) dX6_distinctOf_13
