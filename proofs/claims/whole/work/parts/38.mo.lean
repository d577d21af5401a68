set_option maxHeartbeats 4000000 in
set_option maxRecDepth 100000 in
theorem k_X7_priorityItem (l : Launch) (G : GT) (ad : Nat → Nat) (o : Nat) (r : MoT) (st pl : Int32) (h0 : okA st 0 2) (h1 : okA pl 0 (mSam r.2.2.2.1 r.2.1 st - 1)) (hr2 : vp_in (mRk r.2.2.2.1 r.2.2.2.2.2.1 r.2.2.2.2.2.2.2.1 st pl) 600) : Wr l yX7_priorityItem wsX7_priorityItem { frames := 3, cells := 0, slots := 0, locals := 64 } G (wMo G ad o r) (wMo G ad o (0, r.2)) [.ref (ad o), .int st, .int pl] (some (.int (r.2.2.2.2.1 (mRk r.2.2.2.1 r.2.2.2.2.2.1 r.2.2.2.2.2.2.2.1 st pl).toNatClampNeg))) := by
  intro sz
  refine Met.ofW (cc := cX7_priorityItem) (maxL := 3) (ret := (some .int)) (by decide) rfl ?_
  intro p e s m args below meth c s₁ B hml hv
  obtain ⟨rfl, hsz, hP, hY, hD0⟩ := hv
  subst hsz
  have hD := hD0.self (sz := s.heap.size)
  generalize hAe : va_A (wMo G ad o r) s.heap.size = A at hD ⊢
  have hA : ∀ q : Nat, s.heap.size ≤ q → A q := fun q h => by rw [← hAe]; exact Or.inr h
  have hS : va_S A s.heap s.heap [] := va_S.rf
  have hx := B.exec
  have hb := B.bytes
  have hr := B.returns
  have hts := atoms_spec (ws := wsX7_priorityItem) B.pre
  have hown : s.vm.findClass RX7 = some m.cls := findClass_of_methodNamed B.named
  have hlk := B.notSynchronized
  have CF : CallFix p m c cX7_priorityItem 3 s _ wsX7_priorityItem RX7 := ⟨hx, hb, hml, hown, hts⟩
  have hiX7 : ∀ w ∈ wsX70, w ∈ wsX7_priorityItem := fun w h => (List.mem_cons_of_mem _ (List.mem_append_right _ h))
  have kf20 := hts (.fieldLink RX7 20 "ReservoirReedModel" "items" "[I") (List.mem_cons_of_mem _ (List.mem_append_left _ (List.mem_append_left _ (List.mem_of_getElem? (i := 0) rfl))))
  have hl := lv_entry ([.ref (ad o), .int st, .int pl]) (n := 3) (Nat.le_of_ble_eq_true rfl)
  rw [lg_entry_eq]
  generalize (lg_sl ([.ref (ad o), .int st, .int pl]) ++ List.replicate (3 - (lg_sl ([.ref (ad o), .int st, .int pl])).length) Slot.unset).toArray = ls at hl ⊢
  have hl : lv_has ls 3 [(0, .ref (ad o)), (1, .int st), (2, .int pl)] := hl
  refine lv_aload_n hx hb dX7_priorityItem_0 rfl (lv_at hl 0 rfl) ?_
  refine lv_iload_n hx hb dX7_priorityItem_1 rfl (lv_at hl 1 rfl) ?_
  refine lv_iload_n hx hb dX7_priorityItem_2 rfl (lv_at hl 2 rfl) ?_
  refine wrV [] (wMo G ad o r) [] (wMo G ad o (0, r.2)) (As := [.int st, .int pl]) (rest := []) CF (k_X7_noPlace l G ad o r st pl h0 h1) (cwV 2 hts gX7_priorityItem_X7_noPlace rfl rfl rfl (by decide +kernel) ⟨Nat.le_of_ble_eq_true rfl, Nat.le_of_ble_eq_true rfl⟩) hP hD hS hA hY rfl rfl (fst_Mo _ _ _ _ _) rfl hl.1 rfl (lv_room (Nat.le_of_ble_eq_true rfl)) dX7_priorityItem_3 ⟨Nat.zero_le _, Nat.zero_le _⟩ (fun H locs hP hD hS => ?_)
  have hP : va_P G.1 vwCl (wMo G ad o (0, r.2)) H := hP
  have hD : va_D A (wMo G ad o (0, r.2)) := hD
  refine lv_if_eq (tgt := 13) hx hb dX7_priorityItem_6 (by decide) (fun h6_1 => ?_) (fun h6_1 => ?_)
  · refine lv_aload_n hx hb dX7_priorityItem_13 rfl (lv_at hl 0 rfl) ?_
    refine va_get (D := G.1) (ci := 7) (v := .ref (ad (o+2))) (C := RX7) (T := TX7) (N := 13) hx hb hts hiX7 hown hY.1 hP 0 rfl rfl 4 (by decide) kf20 (fun _ h9 => h9) rfl dX7_priorityItem_14 ?_
    refine lv_aload_n hx hb dX7_priorityItem_17 rfl (lv_at hl 0 rfl) ?_
    refine lv_iload_n hx hb dX7_priorityItem_18 rfl (lv_at hl 1 rfl) ?_
    refine lv_iload_n hx hb dX7_priorityItem_19 rfl (lv_at hl 2 rfl) ?_
    refine rdV (w0 := (wMo G ad o (0, r.2))) (As := [.int st, .int pl]) (rest := [.ref (ad (o+2))]) CF (k_X7_ranked l G ad o (0, r.2) st pl) (cwV 2 hts gX7_priorityItem_X7_ranked rfl rfl rfl (by decide +kernel) ⟨Nat.le_of_ble_eq_true rfl, Nat.le_of_ble_eq_true rfl⟩) hP hY rfl rfl rfl hl.1 rfl (lv_room (Nat.le_of_ble_eq_true rfl)) dX7_priorityItem_20 ⟨Nat.zero_le _, Nat.zero_le _⟩ ?_
    refine va_iald hx hb hY.1 hP 2 0 rfl rfl hr2 dX7_priorityItem_23 ?_
    exact wr_iret hx hb hr hlk hS hP (by first | with_reducible rfl | (simp only [sld_eq, eq_true h6_1, ↓reduceIte]; done)) (by first | with_reducible rfl | (simp only [sld_eq, eq_true h6_1, ↓reduceIte]; done)) dX7_priorityItem_24
  · exact absurd rfl h6_1

set_option maxHeartbeats 4000000 in
set_option maxRecDepth 100000 in
theorem kn_X7_priorityItem (l : Launch) (G : GT) (ad : Nat → Nat) (o : Nat) (r : MoT) (st pl : Int32) (hk : ¬ okA st 0 2) : Wr l yX7_priorityItem wsX7_priorityItem { frames := 3, cells := 0, slots := 0, locals := 64 } G (wMo G ad o r) (wMo G ad o (1, r.2)) [.ref (ad o), .int st, .int pl] (some (.int 0)) := by
  intro sz
  refine Met.ofW (cc := cX7_priorityItem) (maxL := 3) (ret := (some .int)) (by decide) rfl ?_
  intro p e s m args below meth c s₁ B hml hv
  obtain ⟨rfl, hsz, hP, hY, hD0⟩ := hv
  subst hsz
  have hD := hD0.self (sz := s.heap.size)
  generalize hAe : va_A (wMo G ad o r) s.heap.size = A at hD ⊢
  have hA : ∀ q : Nat, s.heap.size ≤ q → A q := fun q h => by rw [← hAe]; exact Or.inr h
  have hS : va_S A s.heap s.heap [] := va_S.rf
  have hx := B.exec
  have hb := B.bytes
  have hr := B.returns
  have hts := atoms_spec (ws := wsX7_priorityItem) B.pre
  have hown : s.vm.findClass RX7 = some m.cls := findClass_of_methodNamed B.named
  have hlk := B.notSynchronized
  have CF : CallFix p m c cX7_priorityItem 3 s _ wsX7_priorityItem RX7 := ⟨hx, hb, hml, hown, hts⟩
  have hl := lv_entry ([.ref (ad o), .int st, .int pl]) (n := 3) (Nat.le_of_ble_eq_true rfl)
  rw [lg_entry_eq]
  generalize (lg_sl ([.ref (ad o), .int st, .int pl]) ++ List.replicate (3 - (lg_sl ([.ref (ad o), .int st, .int pl])).length) Slot.unset).toArray = ls at hl ⊢
  have hl : lv_has ls 3 [(0, .ref (ad o)), (1, .int st), (2, .int pl)] := hl
  refine lv_aload_n hx hb dX7_priorityItem_0 rfl (lv_at hl 0 rfl) ?_
  refine lv_iload_n hx hb dX7_priorityItem_1 rfl (lv_at hl 1 rfl) ?_
  refine lv_iload_n hx hb dX7_priorityItem_2 rfl (lv_at hl 2 rfl) ?_
  refine wrV [] (wMo G ad o r) [] (wMo G ad o (1, r.2)) (As := [.int st, .int pl]) (rest := []) CF (kn_X7_noPlace l G ad o r st pl hk) (cwV 2 hts gX7_priorityItem_X7_noPlace rfl rfl rfl (by decide +kernel) ⟨Nat.le_of_ble_eq_true rfl, Nat.le_of_ble_eq_true rfl⟩) hP hD hS hA hY rfl rfl (fst_Mo _ _ _ _ _) rfl hl.1 rfl (lv_room (Nat.le_of_ble_eq_true rfl)) dX7_priorityItem_3 ⟨Nat.zero_le _, Nat.zero_le _⟩ (fun H locs hP hD hS => ?_)
  have hP : va_P G.1 vwCl (wMo G ad o (1, r.2)) H := hP
  have hD : va_D A (wMo G ad o (1, r.2)) := hD
  refine lv_if_eq (tgt := 13) hx hb dX7_priorityItem_6 (by decide) (fun h6_1 => ?_) (fun h6_1 => ?_)
  · exact absurd h6_1 (by decide)
  · refine lv_iconst (v := 0) hx hb dX7_priorityItem_9 (by decide) ?_
    refine lv_goto (tgt := 24) hx hb dX7_priorityItem_10 (by decide) ?_
    exact wr_iret hx hb hr hlk hS hP (by first | with_reducible rfl | (simp only [sld_eq, h6_1, ↓reduceIte]; done)) (by first | with_reducible rfl | (simp only [sld_eq, h6_1, ↓reduceIte]; done)) dX7_priorityItem_24

set_option maxHeartbeats 4000000 in
set_option maxRecDepth 100000 in
theorem km_X7_priorityItem (l : Launch) (G : GT) (ad : Nat → Nat) (o : Nat) (r : MoT) (st pl : Int32) (h0 : okA st 0 2) (h1 : ¬ okA pl 0 (mSam r.2.2.2.1 r.2.1 st - 1)) : Wr l yX7_priorityItem wsX7_priorityItem { frames := 3, cells := 0, slots := 0, locals := 64 } G (wMo G ad o r) (wMo G ad o (2, r.2)) [.ref (ad o), .int st, .int pl] (some (.int 0)) := by
  intro sz
  refine Met.ofW (cc := cX7_priorityItem) (maxL := 3) (ret := (some .int)) (by decide) rfl ?_
  intro p e s m args below meth c s₁ B hml hv
  obtain ⟨rfl, hsz, hP, hY, hD0⟩ := hv
  subst hsz
  have hD := hD0.self (sz := s.heap.size)
  generalize hAe : va_A (wMo G ad o r) s.heap.size = A at hD ⊢
  have hA : ∀ q : Nat, s.heap.size ≤ q → A q := fun q h => by rw [← hAe]; exact Or.inr h
  have hS : va_S A s.heap s.heap [] := va_S.rf
  have hx := B.exec
  have hb := B.bytes
  have hr := B.returns
  have hts := atoms_spec (ws := wsX7_priorityItem) B.pre
  have hown : s.vm.findClass RX7 = some m.cls := findClass_of_methodNamed B.named
  have hlk := B.notSynchronized
  have CF : CallFix p m c cX7_priorityItem 3 s _ wsX7_priorityItem RX7 := ⟨hx, hb, hml, hown, hts⟩
  have hl := lv_entry ([.ref (ad o), .int st, .int pl]) (n := 3) (Nat.le_of_ble_eq_true rfl)
  rw [lg_entry_eq]
  generalize (lg_sl ([.ref (ad o), .int st, .int pl]) ++ List.replicate (3 - (lg_sl ([.ref (ad o), .int st, .int pl])).length) Slot.unset).toArray = ls at hl ⊢
  have hl : lv_has ls 3 [(0, .ref (ad o)), (1, .int st), (2, .int pl)] := hl
  refine lv_aload_n hx hb dX7_priorityItem_0 rfl (lv_at hl 0 rfl) ?_
  refine lv_iload_n hx hb dX7_priorityItem_1 rfl (lv_at hl 1 rfl) ?_
  refine lv_iload_n hx hb dX7_priorityItem_2 rfl (lv_at hl 2 rfl) ?_
  refine wrV [] (wMo G ad o r) [] (wMo G ad o (2, r.2)) (As := [.int st, .int pl]) (rest := []) CF (km_X7_noPlace l G ad o r st pl h0 h1) (cwV 2 hts gX7_priorityItem_X7_noPlace rfl rfl rfl (by decide +kernel) ⟨Nat.le_of_ble_eq_true rfl, Nat.le_of_ble_eq_true rfl⟩) hP hD hS hA hY rfl rfl (fst_Mo _ _ _ _ _) rfl hl.1 rfl (lv_room (Nat.le_of_ble_eq_true rfl)) dX7_priorityItem_3 ⟨Nat.zero_le _, Nat.zero_le _⟩ (fun H locs hP hD hS => ?_)
  have hP : va_P G.1 vwCl (wMo G ad o (2, r.2)) H := hP
  have hD : va_D A (wMo G ad o (2, r.2)) := hD
  refine lv_if_eq (tgt := 13) hx hb dX7_priorityItem_6 (by decide) (fun h6_1 => ?_) (fun h6_1 => ?_)
  · exact absurd h6_1 (by decide)
  · refine lv_iconst (v := 0) hx hb dX7_priorityItem_9 (by decide) ?_
    refine lv_goto (tgt := 24) hx hb dX7_priorityItem_10 (by decide) ?_
    exact wr_iret hx hb hr hlk hS hP (by first | with_reducible rfl | (simp only [sld_eq, h6_1, ↓reduceIte]; done)) (by first | with_reducible rfl | (simp only [sld_eq, h6_1, ↓reduceIte]; done)) dX7_priorityItem_24

set_option maxHeartbeats 4000000 in
set_option maxRecDepth 100000 in
theorem k_X7_estimatedWeight (l : Launch) (G : GT) (ad : Nat → Nat) (o : Nat) (r : MoT) (st pl : Int32) (h0 : okA st 0 2) (h1 : okA pl 0 (mSam r.2.2.2.1 r.2.1 st - 1)) (hr2 : vp_in (mRk r.2.2.2.1 r.2.2.2.2.2.1 r.2.2.2.2.2.2.2.1 st pl) 600) (hr3 : (mRk r.2.2.2.1 r.2.2.2.2.2.1 r.2.2.2.2.2.2.2.1 st r.2.1) = (-1) ∨ okRk r.2.2.2.2.2.2.2.1 (mRk r.2.2.2.1 r.2.2.2.2.2.1 r.2.2.2.2.2.2.2.1 st r.2.1)) : Wr l yX7_estimatedWeight wsX7_estimatedWeight { frames := 3, cells := 0, slots := 0, locals := 74 } G (wMo G ad o r) (wMo G ad o (0, r.2)) [.ref (ad o), .int st, .int pl] (some (.long (mEst r.2.2.2.2.2.1 (mThr r.2.2.2.1 r.2.2.2.2.2.1 r.2.2.2.2.2.2.2.1 r.2.1 st) (mRk r.2.2.2.1 r.2.2.2.2.2.1 r.2.2.2.2.2.2.2.1 st pl)))) := by
  intro sz
  refine Met.ofW (cc := cX7_estimatedWeight) (maxL := 6) (ret := (some .long)) (by decide) rfl ?_
  intro p e s m args below meth c s₁ B hml hv
  obtain ⟨rfl, hsz, hP, hY, hD0⟩ := hv
  subst hsz
  have hD := hD0.self (sz := s.heap.size)
  generalize hAe : va_A (wMo G ad o r) s.heap.size = A at hD ⊢
  have hA : ∀ q : Nat, s.heap.size ≤ q → A q := fun q h => by rw [← hAe]; exact Or.inr h
  have hS : va_S A s.heap s.heap [] := va_S.rf
  have hx := B.exec
  have hb := B.bytes
  have hr := B.returns
  have hts := atoms_spec (ws := wsX7_estimatedWeight) B.pre
  have hown : s.vm.findClass RX7 = some m.cls := findClass_of_methodNamed B.named
  have hlk := B.notSynchronized
  have CF : CallFix p m c cX7_estimatedWeight 6 s _ wsX7_estimatedWeight RX7 := ⟨hx, hb, hml, hown, hts⟩
  have hiX7 : ∀ w ∈ wsX70, w ∈ wsX7_estimatedWeight := fun w h => (List.mem_cons_of_mem _ (List.mem_append_right _ h))
  have kf23 := hts (.fieldLink RX7 23 "ReservoirReedModel" "weights" "[I") (List.mem_cons_of_mem _ (List.mem_append_left _ (List.mem_append_left _ (List.mem_of_getElem? (i := 0) rfl))))
  have hl := lv_entry ([.ref (ad o), .int st, .int pl]) (n := 6) (Nat.le_of_ble_eq_true rfl)
  rw [lg_entry_eq]
  generalize (lg_sl ([.ref (ad o), .int st, .int pl]) ++ List.replicate (6 - (lg_sl ([.ref (ad o), .int st, .int pl])).length) Slot.unset).toArray = ls at hl ⊢
  have hl : lv_has ls 6 [(0, .ref (ad o)), (1, .int st), (2, .int pl)] := hl
  refine lv_aload_n hx hb dX7_estimatedWeight_0 rfl (lv_at hl 0 rfl) ?_
  refine lv_iload_n hx hb dX7_estimatedWeight_1 rfl (lv_at hl 1 rfl) ?_
  refine lv_iload_n hx hb dX7_estimatedWeight_2 rfl (lv_at hl 2 rfl) ?_
  refine wrV [] (wMo G ad o r) [] (wMo G ad o (0, r.2)) (As := [.int st, .int pl]) (rest := []) CF (k_X7_noPlace l G ad o r st pl h0 h1) (cwV 2 hts gX7_estimatedWeight_X7_noPlace rfl rfl rfl (by decide +kernel) ⟨Nat.le_of_ble_eq_true rfl, Nat.le_of_ble_eq_true rfl⟩) hP hD hS hA hY rfl rfl (fst_Mo _ _ _ _ _) rfl hl.1 rfl (lv_room (Nat.le_of_ble_eq_true rfl)) dX7_estimatedWeight_3 ⟨Nat.zero_le _, Nat.zero_le _⟩ (fun H locs hP hD hS => ?_)
  have hP : va_P G.1 vwCl (wMo G ad o (0, r.2)) H := hP
  have hD : va_D A (wMo G ad o (0, r.2)) := hD
  refine lv_if_eq (tgt := 11) hx hb dX7_estimatedWeight_6 (by decide) (fun h6_1 => ?_) (fun h6_1 => ?_)
  · refine lv_aload_n hx hb dX7_estimatedWeight_11 rfl (lv_at hl 0 rfl) ?_
    refine lv_iload_n hx hb dX7_estimatedWeight_12 rfl (lv_at hl 1 rfl) ?_
    refine rdV (w0 := (wMo G ad o (0, r.2))) (As := [.int st]) (rest := []) CF (k_X7_thresholdOf l G ad o (0, r.2) st hr3) (cwV 1 hts gX7_estimatedWeight_X7_thresholdOf rfl rfl rfl (by decide +kernel) ⟨Nat.le_of_ble_eq_true rfl, Nat.le_of_ble_eq_true rfl⟩) hP hY rfl rfl rfl hl.1 rfl (lv_room (Nat.le_of_ble_eq_true rfl)) dX7_estimatedWeight_13 ⟨Nat.zero_le _, Nat.zero_le _⟩ ?_
    refine lv_lstore_n (lv' := [(3, .long (mThr (0, r.2).2.2.2.1 (0, r.2).2.2.2.2.2.1 (0, r.2).2.2.2.2.2.2.2.1 (0, r.2).2.1 st)), (0, .ref (ad o)), (1, .int st), (2, .int pl)]) hx hb dX7_estimatedWeight_16 rfl hl (by decide) rfl (fun ls hl => ?_)
    refine lv_aload_n hx hb dX7_estimatedWeight_17 rfl (lv_at hl 1 rfl) ?_
    refine va_get (D := G.1) (ci := 7) (v := .ref (ad (o+3))) (C := RX7) (T := TX7) (N := 13) hx hb hts hiX7 hown hY.1 hP 0 rfl rfl 5 (by decide) kf23 (fun _ h9 => h9) rfl dX7_estimatedWeight_18 ?_
    refine lv_aload_n hx hb dX7_estimatedWeight_21 rfl (lv_at hl 1 rfl) ?_
    refine lv_iload_n hx hb dX7_estimatedWeight_22 rfl (lv_at hl 2 rfl) ?_
    refine lv_iload_n hx hb dX7_estimatedWeight_23 rfl (lv_at hl 3 rfl) ?_
    refine rdV (w0 := (wMo G ad o (0, r.2))) (As := [.int st, .int pl]) (rest := [.ref (ad (o+3))]) CF (k_X7_ranked l G ad o (0, r.2) st pl) (cwV 2 hts gX7_estimatedWeight_X7_ranked rfl rfl rfl (by decide +kernel) ⟨Nat.le_of_ble_eq_true rfl, Nat.le_of_ble_eq_true rfl⟩) hP hY rfl rfl rfl hl.1 rfl (lv_room (Nat.le_of_ble_eq_true rfl)) dX7_estimatedWeight_24 ⟨Nat.zero_le _, Nat.zero_le _⟩ ?_
    refine va_iald hx hb hY.1 hP 3 0 rfl rfl hr2 dX7_estimatedWeight_27 ?_
    refine lv_istore (lv' := [(5, .int (r.2.2.2.2.2.1 (mRk (0, r.2).2.2.2.1 (0, r.2).2.2.2.2.2.1 (0, r.2).2.2.2.2.2.2.2.1 st pl).toNatClampNeg)), (3, .long (mThr (0, r.2).2.2.2.1 (0, r.2).2.2.2.2.2.1 (0, r.2).2.2.2.2.2.2.2.1 (0, r.2).2.1 st)), (0, .ref (ad o)), (1, .int st), (2, .int pl)]) hx hb dX7_estimatedWeight_28 hl (by decide) rfl (fun ls hl => ?_)
    refine lv_iload hx hb dX7_estimatedWeight_30 (lv_at hl 0 rfl) ?_
    refine lv_i2l hx hb dX7_estimatedWeight_32 rfl ?_
    refine lv_lload_n hx hb dX7_estimatedWeight_33 rfl (lv_at hl 1 rfl) ?_
    refine W.lcmp hx hb dX7_estimatedWeight_34 ?_
    refine lv_if_le (tgt := 44) hx hb dX7_estimatedWeight_35 (by decide) (fun h35_2 => ?_) (fun h35_2 => ?_)
    · refine lv_lload_n hx hb dX7_estimatedWeight_44 rfl (lv_at hl 1 rfl) ?_
      exact wr_lret hx hb hr hlk hS hP (by first | with_reducible rfl | (simp only [mEst, sld_eq, eq_true h6_1, h35_2, ↓reduceIte]; done)) (by first | with_reducible rfl | (simp only [mEst, sld_eq, eq_true h6_1, h35_2, ↓reduceIte]; done)) dX7_estimatedWeight_45
    · refine lv_iload hx hb dX7_estimatedWeight_38 (lv_at hl 0 rfl) ?_
      refine lv_i2l hx hb dX7_estimatedWeight_40 rfl ?_
      refine lv_goto (tgt := 45) hx hb dX7_estimatedWeight_41 (by decide) ?_
      exact wr_lret hx hb hr hlk hS hP (by first | with_reducible rfl | (simp only [mEst, sld_eq, eq_true h6_1, h35_2, ↓reduceIte]; done)) (by first | with_reducible rfl | (simp only [mEst, sld_eq, eq_true h6_1, h35_2, ↓reduceIte]; done)) dX7_estimatedWeight_45
  · exact absurd rfl h6_1

set_option maxHeartbeats 4000000 in
set_option maxRecDepth 100000 in
theorem kn_X7_estimatedWeight (l : Launch) (G : GT) (ad : Nat → Nat) (o : Nat) (r : MoT) (st pl : Int32) (hk : ¬ okA st 0 2) : Wr l yX7_estimatedWeight wsX7_estimatedWeight { frames := 3, cells := 0, slots := 0, locals := 74 } G (wMo G ad o r) (wMo G ad o (1, r.2)) [.ref (ad o), .int st, .int pl] (some (.long 0)) := by
  intro sz
  refine Met.ofW (cc := cX7_estimatedWeight) (maxL := 6) (ret := (some .long)) (by decide) rfl ?_
  intro p e s m args below meth c s₁ B hml hv
  obtain ⟨rfl, hsz, hP, hY, hD0⟩ := hv
  subst hsz
  have hD := hD0.self (sz := s.heap.size)
  generalize hAe : va_A (wMo G ad o r) s.heap.size = A at hD ⊢
  have hA : ∀ q : Nat, s.heap.size ≤ q → A q := fun q h => by rw [← hAe]; exact Or.inr h
  have hS : va_S A s.heap s.heap [] := va_S.rf
  have hx := B.exec
  have hb := B.bytes
  have hr := B.returns
  have hts := atoms_spec (ws := wsX7_estimatedWeight) B.pre
  have hown : s.vm.findClass RX7 = some m.cls := findClass_of_methodNamed B.named
  have hlk := B.notSynchronized
  have CF : CallFix p m c cX7_estimatedWeight 6 s _ wsX7_estimatedWeight RX7 := ⟨hx, hb, hml, hown, hts⟩
  have hl := lv_entry ([.ref (ad o), .int st, .int pl]) (n := 6) (Nat.le_of_ble_eq_true rfl)
  rw [lg_entry_eq]
  generalize (lg_sl ([.ref (ad o), .int st, .int pl]) ++ List.replicate (6 - (lg_sl ([.ref (ad o), .int st, .int pl])).length) Slot.unset).toArray = ls at hl ⊢
  have hl : lv_has ls 6 [(0, .ref (ad o)), (1, .int st), (2, .int pl)] := hl
  refine lv_aload_n hx hb dX7_estimatedWeight_0 rfl (lv_at hl 0 rfl) ?_
  refine lv_iload_n hx hb dX7_estimatedWeight_1 rfl (lv_at hl 1 rfl) ?_
  refine lv_iload_n hx hb dX7_estimatedWeight_2 rfl (lv_at hl 2 rfl) ?_
  refine wrV [] (wMo G ad o r) [] (wMo G ad o (1, r.2)) (As := [.int st, .int pl]) (rest := []) CF (kn_X7_noPlace l G ad o r st pl hk) (cwV 2 hts gX7_estimatedWeight_X7_noPlace rfl rfl rfl (by decide +kernel) ⟨Nat.le_of_ble_eq_true rfl, Nat.le_of_ble_eq_true rfl⟩) hP hD hS hA hY rfl rfl (fst_Mo _ _ _ _ _) rfl hl.1 rfl (lv_room (Nat.le_of_ble_eq_true rfl)) dX7_estimatedWeight_3 ⟨Nat.zero_le _, Nat.zero_le _⟩ (fun H locs hP hD hS => ?_)
  have hP : va_P G.1 vwCl (wMo G ad o (1, r.2)) H := hP
  have hD : va_D A (wMo G ad o (1, r.2)) := hD
  refine lv_if_eq (tgt := 11) hx hb dX7_estimatedWeight_6 (by decide) (fun h6_1 => ?_) (fun h6_1 => ?_)
  · exact absurd h6_1 (by decide)
  · refine lv_lconst (v := 0) hx hb dX7_estimatedWeight_9 (by decide) ?_
    exact wr_lret hx hb hr hlk hS hP (by first | with_reducible rfl | (simp only [sld_eq, h6_1, ↓reduceIte]; done)) (by first | with_reducible rfl | (simp only [sld_eq, h6_1, ↓reduceIte]; done)) dX7_estimatedWeight_10

set_option maxHeartbeats 4000000 in
set_option maxRecDepth 100000 in
theorem km_X7_estimatedWeight (l : Launch) (G : GT) (ad : Nat → Nat) (o : Nat) (r : MoT) (st pl : Int32) (h0 : okA st 0 2) (h1 : ¬ okA pl 0 (mSam r.2.2.2.1 r.2.1 st - 1)) : Wr l yX7_estimatedWeight wsX7_estimatedWeight { frames := 3, cells := 0, slots := 0, locals := 74 } G (wMo G ad o r) (wMo G ad o (2, r.2)) [.ref (ad o), .int st, .int pl] (some (.long 0)) := by
  intro sz
  refine Met.ofW (cc := cX7_estimatedWeight) (maxL := 6) (ret := (some .long)) (by decide) rfl ?_
  intro p e s m args below meth c s₁ B hml hv
  obtain ⟨rfl, hsz, hP, hY, hD0⟩ := hv
  subst hsz
  have hD := hD0.self (sz := s.heap.size)
  generalize hAe : va_A (wMo G ad o r) s.heap.size = A at hD ⊢
  have hA : ∀ q : Nat, s.heap.size ≤ q → A q := fun q h => by rw [← hAe]; exact Or.inr h
  have hS : va_S A s.heap s.heap [] := va_S.rf
  have hx := B.exec
  have hb := B.bytes
  have hr := B.returns
  have hts := atoms_spec (ws := wsX7_estimatedWeight) B.pre
  have hown : s.vm.findClass RX7 = some m.cls := findClass_of_methodNamed B.named
  have hlk := B.notSynchronized
  have CF : CallFix p m c cX7_estimatedWeight 6 s _ wsX7_estimatedWeight RX7 := ⟨hx, hb, hml, hown, hts⟩
  have hl := lv_entry ([.ref (ad o), .int st, .int pl]) (n := 6) (Nat.le_of_ble_eq_true rfl)
  rw [lg_entry_eq]
  generalize (lg_sl ([.ref (ad o), .int st, .int pl]) ++ List.replicate (6 - (lg_sl ([.ref (ad o), .int st, .int pl])).length) Slot.unset).toArray = ls at hl ⊢
  have hl : lv_has ls 6 [(0, .ref (ad o)), (1, .int st), (2, .int pl)] := hl
  refine lv_aload_n hx hb dX7_estimatedWeight_0 rfl (lv_at hl 0 rfl) ?_
  refine lv_iload_n hx hb dX7_estimatedWeight_1 rfl (lv_at hl 1 rfl) ?_
  refine lv_iload_n hx hb dX7_estimatedWeight_2 rfl (lv_at hl 2 rfl) ?_
  refine wrV [] (wMo G ad o r) [] (wMo G ad o (2, r.2)) (As := [.int st, .int pl]) (rest := []) CF (km_X7_noPlace l G ad o r st pl h0 h1) (cwV 2 hts gX7_estimatedWeight_X7_noPlace rfl rfl rfl (by decide +kernel) ⟨Nat.le_of_ble_eq_true rfl, Nat.le_of_ble_eq_true rfl⟩) hP hD hS hA hY rfl rfl (fst_Mo _ _ _ _ _) rfl hl.1 rfl (lv_room (Nat.le_of_ble_eq_true rfl)) dX7_estimatedWeight_3 ⟨Nat.zero_le _, Nat.zero_le _⟩ (fun H locs hP hD hS => ?_)
  have hP : va_P G.1 vwCl (wMo G ad o (2, r.2)) H := hP
  have hD : va_D A (wMo G ad o (2, r.2)) := hD
  refine lv_if_eq (tgt := 11) hx hb dX7_estimatedWeight_6 (by decide) (fun h6_1 => ?_) (fun h6_1 => ?_)
  · exact absurd h6_1 (by decide)
  · refine lv_lconst (v := 0) hx hb dX7_estimatedWeight_9 (by decide) ?_
    exact wr_lret hx hb hr hlk hS hP (by first | with_reducible rfl | (simp only [sld_eq, h6_1, ↓reduceIte]; done)) (by first | with_reducible rfl | (simp only [sld_eq, h6_1, ↓reduceIte]; done)) dX7_estimatedWeight_10

set_option maxHeartbeats 4000000 in
set_option maxRecDepth 100000 in
theorem k_X7_threshold (l : Launch) (G : GT) (ad : Nat → Nat) (o : Nat) (r : MoT) (st : Int32) (h0 : okA st 0 2) (hr3 : (mRk r.2.2.2.1 r.2.2.2.2.2.1 r.2.2.2.2.2.2.2.1 st r.2.1) = (-1) ∨ okRk r.2.2.2.2.2.2.2.1 (mRk r.2.2.2.1 r.2.2.2.2.2.1 r.2.2.2.2.2.2.2.1 st r.2.1)) : Wr l yX7_threshold wsX7_threshold { frames := 3, cells := 0, slots := 0, locals := 74 } G (wMo G ad o r) (wMo G ad o (0, r.2)) [.ref (ad o), .int st] (some (.long (mThr r.2.2.2.1 r.2.2.2.2.2.1 r.2.2.2.2.2.2.2.1 r.2.1 st))) := by
  intro sz
  refine Met.ofW (cc := cX7_threshold) (maxL := 2) (ret := (some .long)) (by decide) rfl ?_
  intro p e s m args below meth c s₁ B hml hv
  obtain ⟨rfl, hsz, hP, hY, hD0⟩ := hv
  subst hsz
  have hD := hD0.self (sz := s.heap.size)
  generalize hAe : va_A (wMo G ad o r) s.heap.size = A at hD ⊢
  have hA : ∀ q : Nat, s.heap.size ≤ q → A q := fun q h => by rw [← hAe]; exact Or.inr h
  have hS : va_S A s.heap s.heap [] := va_S.rf
  have hx := B.exec
  have hb := B.bytes
  have hr := B.returns
  have hts := atoms_spec (ws := wsX7_threshold) B.pre
  have hown : s.vm.findClass RX7 = some m.cls := findClass_of_methodNamed B.named
  have hlk := B.notSynchronized
  have CF : CallFix p m c cX7_threshold 2 s _ wsX7_threshold RX7 := ⟨hx, hb, hml, hown, hts⟩
  have hl := lv_entry ([.ref (ad o), .int st]) (n := 2) (Nat.le_of_ble_eq_true rfl)
  rw [lg_entry_eq]
  generalize (lg_sl ([.ref (ad o), .int st]) ++ List.replicate (2 - (lg_sl ([.ref (ad o), .int st])).length) Slot.unset).toArray = ls at hl ⊢
  have hl : lv_has ls 2 [(0, .ref (ad o)), (1, .int st)] := hl
  refine lv_aload_n hx hb dX7_threshold_0 rfl (lv_at hl 0 rfl) ?_
  refine lv_iload_n hx hb dX7_threshold_1 rfl (lv_at hl 1 rfl) ?_
  refine lv_iconst (v := 2) hx hb dX7_threshold_2 (by decide) ?_
  refine wrV [] (wMo G ad o r) [] (wMo G ad o (0, r.2)) (As := [.int st, .int 2]) (rest := []) CF (k_X7_noStream l G ad o r st 2 h0) (cwV 2 hts gX7_threshold_X7_noStream rfl rfl rfl (by decide +kernel) ⟨Nat.le_of_ble_eq_true rfl, Nat.le_of_ble_eq_true rfl⟩) hP hD hS hA hY rfl rfl (fst_Mo _ _ _ _ _) rfl hl.1 rfl (lv_room (Nat.le_of_ble_eq_true rfl)) dX7_threshold_3 ⟨Nat.zero_le _, Nat.zero_le _⟩ (fun H locs hP hD hS => ?_)
  have hP : va_P G.1 vwCl (wMo G ad o (0, r.2)) H := hP
  have hD : va_D A (wMo G ad o (0, r.2)) := hD
  refine lv_if_eq (tgt := 13) hx hb dX7_threshold_6 (by decide) (fun h6_1 => ?_) (fun h6_1 => ?_)
  · refine lv_aload_n hx hb dX7_threshold_13 rfl (lv_at hl 0 rfl) ?_
    refine lv_iload_n hx hb dX7_threshold_14 rfl (lv_at hl 1 rfl) ?_
    refine rdV (w0 := (wMo G ad o (0, r.2))) (As := [.int st]) (rest := []) CF (k_X7_thresholdOf l G ad o (0, r.2) st hr3) (cwV 1 hts gX7_threshold_X7_thresholdOf rfl rfl rfl (by decide +kernel) ⟨Nat.le_of_ble_eq_true rfl, Nat.le_of_ble_eq_true rfl⟩) hP hY rfl rfl rfl hl.1 rfl (lv_room (Nat.le_of_ble_eq_true rfl)) dX7_threshold_15 ⟨Nat.zero_le _, Nat.zero_le _⟩ ?_
    exact wr_lret hx hb hr hlk hS hP (by first | with_reducible rfl | (simp only [sld_eq, eq_true h6_1, ↓reduceIte]; done)) (by first | with_reducible rfl | (simp only [sld_eq, eq_true h6_1, ↓reduceIte]; done)) dX7_threshold_18
  · exact absurd rfl h6_1

set_option maxHeartbeats 4000000 in
set_option maxRecDepth 100000 in
theorem kn_X7_threshold (l : Launch) (G : GT) (ad : Nat → Nat) (o : Nat) (r : MoT) (st : Int32) (hk : ¬ okA st 0 2) : Wr l yX7_threshold wsX7_threshold { frames := 3, cells := 0, slots := 0, locals := 74 } G (wMo G ad o r) (wMo G ad o (1, r.2)) [.ref (ad o), .int st] (some (.long 0)) := by
  intro sz
  refine Met.ofW (cc := cX7_threshold) (maxL := 2) (ret := (some .long)) (by decide) rfl ?_
  intro p e s m args below meth c s₁ B hml hv
  obtain ⟨rfl, hsz, hP, hY, hD0⟩ := hv
  subst hsz
  have hD := hD0.self (sz := s.heap.size)
  generalize hAe : va_A (wMo G ad o r) s.heap.size = A at hD ⊢
  have hA : ∀ q : Nat, s.heap.size ≤ q → A q := fun q h => by rw [← hAe]; exact Or.inr h
  have hS : va_S A s.heap s.heap [] := va_S.rf
  have hx := B.exec
  have hb := B.bytes
  have hr := B.returns
  have hts := atoms_spec (ws := wsX7_threshold) B.pre
  have hown : s.vm.findClass RX7 = some m.cls := findClass_of_methodNamed B.named
  have hlk := B.notSynchronized
  have CF : CallFix p m c cX7_threshold 2 s _ wsX7_threshold RX7 := ⟨hx, hb, hml, hown, hts⟩
  have hl := lv_entry ([.ref (ad o), .int st]) (n := 2) (Nat.le_of_ble_eq_true rfl)
  rw [lg_entry_eq]
  generalize (lg_sl ([.ref (ad o), .int st]) ++ List.replicate (2 - (lg_sl ([.ref (ad o), .int st])).length) Slot.unset).toArray = ls at hl ⊢
  have hl : lv_has ls 2 [(0, .ref (ad o)), (1, .int st)] := hl
  refine lv_aload_n hx hb dX7_threshold_0 rfl (lv_at hl 0 rfl) ?_
  refine lv_iload_n hx hb dX7_threshold_1 rfl (lv_at hl 1 rfl) ?_
  refine lv_iconst (v := 2) hx hb dX7_threshold_2 (by decide) ?_
  refine wrV [] (wMo G ad o r) [] (wMo G ad o (1, r.2)) (As := [.int st, .int 2]) (rest := []) CF (kn_X7_noStream l G ad o r st 2 hk) (cwV 2 hts gX7_threshold_X7_noStream rfl rfl rfl (by decide +kernel) ⟨Nat.le_of_ble_eq_true rfl, Nat.le_of_ble_eq_true rfl⟩) hP hD hS hA hY rfl rfl (fst_Mo _ _ _ _ _) rfl hl.1 rfl (lv_room (Nat.le_of_ble_eq_true rfl)) dX7_threshold_3 ⟨Nat.zero_le _, Nat.zero_le _⟩ (fun H locs hP hD hS => ?_)
  have hP : va_P G.1 vwCl (wMo G ad o (1, r.2)) H := hP
  have hD : va_D A (wMo G ad o (1, r.2)) := hD
  refine lv_if_eq (tgt := 13) hx hb dX7_threshold_6 (by decide) (fun h6_1 => ?_) (fun h6_1 => ?_)
  · exact absurd h6_1 (by decide)
  · refine lv_lconst (v := 0) hx hb dX7_threshold_9 (by decide) ?_
    refine lv_goto (tgt := 18) hx hb dX7_threshold_10 (by decide) ?_
    exact wr_lret hx hb hr hlk hS hP (by first | with_reducible rfl | (simp only [sld_eq, h6_1, ↓reduceIte]; done)) (by first | with_reducible rfl | (simp only [sld_eq, h6_1, ↓reduceIte]; done)) dX7_threshold_18
