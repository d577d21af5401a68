set_option maxHeartbeats 4000000 in
set_option maxRecDepth 100000 in
theorem k_X7_thresholdOf (l : Launch) (G : GT) (ad : Nat → Nat) (o : Nat) (r : MoT) (st : Int32) (hr2 : (mRk r.2.2.2.1 r.2.2.2.2.2.1 r.2.2.2.2.2.2.2.1 st r.2.1) = (-1) ∨ okRk r.2.2.2.2.2.2.2.1 (mRk r.2.2.2.1 r.2.2.2.2.2.1 r.2.2.2.2.2.2.2.1 st r.2.1)) : Rd l yX7_thresholdOf wsX7_thresholdOf { frames := 2, cells := 0, slots := 0, locals := 52 } G (wMo G ad o r) [.ref (ad o), .int st] (.long (mThr r.2.2.2.1 r.2.2.2.2.2.1 r.2.2.2.2.2.2.2.1 r.2.1 st)) := by
  refine Met.ofW (cc := cX7_thresholdOf) (maxL := 3) (ret := (some .long)) (by decide) rfl ?_
  intro p e s m args below meth c s₁ B hml hv
  obtain ⟨rfl, hP, hY⟩ := hv
  have hx := B.exec
  have hb := B.bytes
  have hr := B.returns
  have hts := atoms_spec (ws := wsX7_thresholdOf) B.pre
  have hown : s.vm.findClass RX7 = some m.cls := findClass_of_methodNamed B.named
  have hlk := B.notSynchronized
  have CF : CallFix p m c cX7_thresholdOf 3 s _ wsX7_thresholdOf RX7 := ⟨hx, hb, hml, hown, hts⟩
  have hiX7 : ∀ w ∈ wsX70, w ∈ wsX7_thresholdOf := fun w h => (List.mem_cons_of_mem _ (List.mem_append_right _ h))
  have kf7 := hts (.fieldLink RX7 7 "ReservoirReedModel" "size" "I") (List.mem_cons_of_mem _ (List.mem_append_left _ (List.mem_of_getElem? (i := 0) rfl)))
  have kf23 := hts (.fieldLink RX7 23 "ReservoirReedModel" "weights" "[I") (List.mem_cons_of_mem _ (List.mem_append_left _ (List.mem_of_getElem? (i := 1) rfl)))
  have kc82 := hts (.constantLong RX7 82 (2147483648)) (List.mem_cons_of_mem _ (List.mem_append_left _ (List.mem_of_getElem? (i := 2) rfl)))
  have kf29 := hts (.fieldLink RX7 29 "ReservoirReedModel" "firsts" "[I") (List.mem_cons_of_mem _ (List.mem_append_left _ (List.mem_of_getElem? (i := 3) rfl)))
  have hl := lv_entry ([.ref (ad o), .int st]) (n := 3) (Nat.le_of_ble_eq_true rfl)
  rw [lg_entry_eq]
  generalize (lg_sl ([.ref (ad o), .int st]) ++ List.replicate (3 - (lg_sl ([.ref (ad o), .int st])).length) Slot.unset).toArray = ls at hl ⊢
  have hl : lv_has ls 3 [(0, .ref (ad o)), (1, .int st)] := hl
  refine lv_aload_n hx hb dX7_thresholdOf_0 rfl (lv_at hl 0 rfl) ?_
  refine lv_iload_n hx hb dX7_thresholdOf_1 rfl (lv_at hl 1 rfl) ?_
  refine lv_aload_n hx hb dX7_thresholdOf_2 rfl (lv_at hl 0 rfl) ?_
  refine va_get (D := G.1) (ci := 7) (v := .int r.2.1) (C := RX7) (T := TX7) (N := 13) hx hb hts hiX7 hown hY.1 hP 0 rfl rfl 1 (by decide) kf7 (fun _ h9 => h9) rfl dX7_thresholdOf_3 ?_
  refine rdV (w0 := (wMo G ad o r)) (As := [.int st, .int r.2.1]) (rest := []) CF (k_X7_ranked l G ad o r st r.2.1) (cwV 2 hts gX7_thresholdOf_X7_ranked rfl rfl rfl (by decide +kernel) ⟨Nat.le_of_ble_eq_true rfl, Nat.le_of_ble_eq_true rfl⟩) hP hY rfl rfl rfl hl.1 rfl (lv_room (Nat.le_of_ble_eq_true rfl)) dX7_thresholdOf_6 ⟨Nat.zero_le _, Nat.zero_le _⟩ ?_
  refine lv_istore_n (lv' := [(2, .int (mRk r.2.2.2.1 r.2.2.2.2.2.1 r.2.2.2.2.2.2.2.1 st r.2.1)), (0, .ref (ad o)), (1, .int st)]) hx hb dX7_thresholdOf_9 rfl hl (by decide) rfl (fun ls hl => ?_)
  refine lv_iload_n hx hb dX7_thresholdOf_10 rfl (lv_at hl 0 rfl) ?_
  refine lv_iconst (v := -1) hx hb dX7_thresholdOf_11 (by decide) ?_
  refine lv_icmp_ne (tgt := 19) hx hb dX7_thresholdOf_12 (by decide) (fun h12_1 => ?_) (fun h12_1 => ?_)
  · refine lv_aload_n hx hb dX7_thresholdOf_19 rfl (lv_at hl 1 rfl) ?_
    refine va_get (D := G.1) (ci := 7) (v := .ref (ad (o+3))) (C := RX7) (T := TX7) (N := 13) hx hb hts hiX7 hown hY.1 hP 0 rfl rfl 5 (by decide) kf23 (fun _ h9 => h9) rfl dX7_thresholdOf_20 ?_
    refine lv_iload_n hx hb dX7_thresholdOf_23 rfl (lv_at hl 0 rfl) ?_
    refine va_iald hx hb hY.1 hP 3 0 rfl rfl (hr2.resolve_left h12_1).1 dX7_thresholdOf_24 ?_
    refine lv_i2l hx hb dX7_thresholdOf_25 rfl ?_
    refine lv_ldc2 hx hb hown kc82 dX7_thresholdOf_26 ?_
    refine lv_lmul hx hb dX7_thresholdOf_29 ?_
    refine lv_aload_n hx hb dX7_thresholdOf_30 rfl (lv_at hl 1 rfl) ?_
    refine va_get (D := G.1) (ci := 7) (v := .ref (ad (o+5))) (C := RX7) (T := TX7) (N := 13) hx hb hts hiX7 hown hY.1 hP 0 rfl rfl 7 (by decide) kf29 (fun _ h9 => h9) rfl dX7_thresholdOf_31 ?_
    refine lv_iload_n hx hb dX7_thresholdOf_34 rfl (lv_at hl 0 rfl) ?_
    refine va_iald hx hb hY.1 hP 5 0 rfl rfl (hr2.resolve_left h12_1).1 dX7_thresholdOf_35 ?_
    refine lv_i2l hx hb dX7_thresholdOf_36 rfl ?_
    refine lv_lconst (v := 1) hx hb dX7_thresholdOf_37 (by decide) ?_
    refine lv_ladd hx hb dX7_thresholdOf_38 ?_
    refine lv_ldiv hx hb dX7_thresholdOf_39 (hr2.resolve_left h12_1).2 ?_
    exact rd_lret hx hb hr hlk (by first | with_reducible rfl | (simp only [mThr, mTh, sld_eq, h12_1, ↓reduceIte]; done)) dX7_thresholdOf_40
  · refine lv_lconst (v := 0) hx hb dX7_thresholdOf_15 (by decide) ?_
    refine lv_goto (tgt := 40) hx hb dX7_thresholdOf_16 (by decide) ?_
    exact rd_lret hx hb hr hlk (by first | with_reducible rfl | (simp only [mThr, mTh, sld_eq, eq_true h12_1, ↓reduceIte]; done)) dX7_thresholdOf_40

set_option maxHeartbeats 4000000 in
set_option maxRecDepth 100000 in
theorem k_X7_noPlace (l : Launch) (G : GT) (ad : Nat → Nat) (o : Nat) (r : MoT) (st pl : Int32) (h0 : okA st 0 2) (h1 : okA pl 0 (mSam r.2.2.2.1 r.2.1 st - 1)) : Wr l yX7_noPlace wsX7_noPlace { frames := 2, cells := 0, slots := 0, locals := 42 } G (wMo G ad o r) (wMo G ad o (0, r.2)) [.ref (ad o), .int st, .int pl] (some (.int 0)) := by
  intro sz
  refine Met.ofW (cc := cX7_noPlace) (maxL := 3) (ret := (some .boolean)) (by decide) rfl ?_
  intro p e s m args below meth c s₁ B hml hv
  obtain ⟨rfl, hsz, hP, hY, hD0⟩ := hv
  subst hsz
  have hD := hD0.self (sz := s.heap.size)
  generalize hAe : va_A (wMo G ad o r) s.heap.size = A at hD ⊢
  have hA : ∀ q : Nat, s.heap.size ≤ q → A q := fun q h => by rw [← hAe]; exact Or.inr h
  have hS : va_S A s.heap s.heap [] := va_S.rf
  have hx := B.exec
  have hb := B.bytes
  have hr := B.returns
  have hts := atoms_spec (ws := wsX7_noPlace) B.pre
  have hown : s.vm.findClass RX7 = some m.cls := findClass_of_methodNamed B.named
  have hlk := B.notSynchronized
  have CF : CallFix p m c cX7_noPlace 3 s _ wsX7_noPlace RX7 := ⟨hx, hb, hml, hown, hts⟩
  have hl := lv_entry ([.ref (ad o), .int st, .int pl]) (n := 3) (Nat.le_of_ble_eq_true rfl)
  rw [lg_entry_eq]
  generalize (lg_sl ([.ref (ad o), .int st, .int pl]) ++ List.replicate (3 - (lg_sl ([.ref (ad o), .int st, .int pl])).length) Slot.unset).toArray = ls at hl ⊢
  have hl : lv_has ls 3 [(0, .ref (ad o)), (1, .int st), (2, .int pl)] := hl
  refine lv_aload_n hx hb dX7_noPlace_0 rfl (lv_at hl 0 rfl) ?_
  refine lv_iload_n hx hb dX7_noPlace_1 rfl (lv_at hl 1 rfl) ?_
  refine lv_iconst (v := 0) hx hb dX7_noPlace_2 (by decide) ?_
  refine lv_iconst (v := 2) hx hb dX7_noPlace_3 (by decide) ?_
  refine rdS (w0 := ([] : va_W)) (As := [.int st, .int 0, .int 2]) (rest := [.ref (ad o)]) CF (k_X7_in l G st 0 2 h0) (va_cwS 3 hts gX7_noPlace_X7_in rfl rfl rfl (by decide +kernel) ⟨Nat.le_of_ble_eq_true rfl, Nat.le_of_ble_eq_true rfl⟩) va_P_nil hY rfl hl.1 rfl (lv_room (Nat.le_of_ble_eq_true rfl)) dX7_noPlace_4 ⟨Nat.zero_le _, Nat.zero_le _⟩ ?_
  refine lv_if_ne (tgt := 14) hx hb dX7_noPlace_7 (by decide) (fun h7_1 => ?_) (fun h7_1 => ?_)
  · refine lv_iload_n hx hb dX7_noPlace_14 rfl (lv_at hl 2 rfl) ?_
    refine lv_iconst (v := 0) hx hb dX7_noPlace_15 (by decide) ?_
    refine lv_aload_n hx hb dX7_noPlace_16 rfl (lv_at hl 0 rfl) ?_
    refine lv_iload_n hx hb dX7_noPlace_17 rfl (lv_at hl 1 rfl) ?_
    refine rdV (w0 := (wMo G ad o r)) (As := [.int st]) (rest := [.int 0, .int pl, .ref (ad o)]) CF (k_X7_sampled l G ad o r st h0) (cwV 1 hts gX7_noPlace_X7_sampled rfl rfl rfl (by decide +kernel) ⟨Nat.le_of_ble_eq_true rfl, Nat.le_of_ble_eq_true rfl⟩) hP hY rfl rfl rfl hl.1 rfl (lv_room (Nat.le_of_ble_eq_true rfl)) dX7_noPlace_18 ⟨Nat.zero_le _, Nat.zero_le _⟩ ?_
    refine lv_iconst (v := 1) hx hb dX7_noPlace_21 (by decide) ?_
    refine lv_isub hx hb dX7_noPlace_22 ?_
    refine rdS (w0 := ([] : va_W)) (As := [.int pl, .int 0, .int ((mSam r.2.2.2.1 r.2.1 st) - 1)]) (rest := [.ref (ad o)]) CF (k_X7_in l G pl 0 ((mSam r.2.2.2.1 r.2.1 st) - 1) h1) (va_cwS 3 hts gX7_noPlace_X7_in rfl rfl rfl (by decide +kernel) ⟨Nat.le_of_ble_eq_true rfl, Nat.le_of_ble_eq_true rfl⟩) va_P_nil hY rfl hl.1 rfl (lv_room (Nat.le_of_ble_eq_true rfl)) dX7_noPlace_23 ⟨Nat.zero_le _, Nat.zero_le _⟩ ?_
    refine lv_if_eq (tgt := 33) hx hb dX7_noPlace_26 (by decide) (fun h26_2 => ?_) (fun h26_2 => ?_)
    · exact absurd h26_2 (by decide)
    · refine lv_iconst (v := 0) hx hb dX7_noPlace_29 (by decide) ?_
      refine lv_goto (tgt := 34) hx hb dX7_noPlace_30 (by decide) ?_
      refine wrV [] (wMo G ad o r) [] (wMo G ad o (0, r.2)) (As := [.int 0]) (rest := []) CF (k0_X7_refused l G ad o r 0 rfl) (cwV 1 hts gX7_noPlace_X7_refused rfl rfl rfl (by decide +kernel) ⟨Nat.le_of_ble_eq_true rfl, Nat.le_of_ble_eq_true rfl⟩) hP hD hS hA hY rfl rfl (fst_Mo _ _ _ _ _) rfl hl.1 rfl (lv_room (Nat.le_of_ble_eq_true rfl)) dX7_noPlace_34 ⟨Nat.zero_le _, Nat.zero_le _⟩ (fun H locs hP hD hS => ?_)
      have hP : va_P G.1 vwCl (wMo G ad o (0, r.2)) H := hP
      have hD : va_D A (wMo G ad o (0, r.2)) := hD
      exact wr_zret hx hb hr hlk hS hP (by first | with_reducible rfl | (simp only [sld_eq, h7_1, h26_2, ↓reduceIte]; done)) (by first | with_reducible rfl | (simp only [sld_eq, h7_1, h26_2, ↓reduceIte]; done)) rfl dX7_noPlace_37
  · exact absurd h7_1 (by decide)

set_option maxHeartbeats 4000000 in
set_option maxRecDepth 100000 in
theorem kn_X7_noPlace (l : Launch) (G : GT) (ad : Nat → Nat) (o : Nat) (r : MoT) (st pl : Int32) (hk : ¬ okA st 0 2) : Wr l yX7_noPlace wsX7_noPlace { frames := 2, cells := 0, slots := 0, locals := 42 } G (wMo G ad o r) (wMo G ad o (1, r.2)) [.ref (ad o), .int st, .int pl] (some (.int 1)) := by
  intro sz
  refine Met.ofW (cc := cX7_noPlace) (maxL := 3) (ret := (some .boolean)) (by decide) rfl ?_
  intro p e s m args below meth c s₁ B hml hv
  obtain ⟨rfl, hsz, hP, hY, hD0⟩ := hv
  subst hsz
  have hD := hD0.self (sz := s.heap.size)
  generalize hAe : va_A (wMo G ad o r) s.heap.size = A at hD ⊢
  have hA : ∀ q : Nat, s.heap.size ≤ q → A q := fun q h => by rw [← hAe]; exact Or.inr h
  have hS : va_S A s.heap s.heap [] := va_S.rf
  have hx := B.exec
  have hb := B.bytes
  have hr := B.returns
  have hts := atoms_spec (ws := wsX7_noPlace) B.pre
  have hown : s.vm.findClass RX7 = some m.cls := findClass_of_methodNamed B.named
  have hlk := B.notSynchronized
  have CF : CallFix p m c cX7_noPlace 3 s _ wsX7_noPlace RX7 := ⟨hx, hb, hml, hown, hts⟩
  have hl := lv_entry ([.ref (ad o), .int st, .int pl]) (n := 3) (Nat.le_of_ble_eq_true rfl)
  rw [lg_entry_eq]
  generalize (lg_sl ([.ref (ad o), .int st, .int pl]) ++ List.replicate (3 - (lg_sl ([.ref (ad o), .int st, .int pl])).length) Slot.unset).toArray = ls at hl ⊢
  have hl : lv_has ls 3 [(0, .ref (ad o)), (1, .int st), (2, .int pl)] := hl
  refine lv_aload_n hx hb dX7_noPlace_0 rfl (lv_at hl 0 rfl) ?_
  refine lv_iload_n hx hb dX7_noPlace_1 rfl (lv_at hl 1 rfl) ?_
  refine lv_iconst (v := 0) hx hb dX7_noPlace_2 (by decide) ?_
  refine lv_iconst (v := 2) hx hb dX7_noPlace_3 (by decide) ?_
  refine rdS (w0 := ([] : va_W)) (As := [.int st, .int 0, .int 2]) (rest := [.ref (ad o)]) CF (kn_X7_in l G st 0 2 hk) (va_cwS 3 hts gX7_noPlace_X7_in rfl rfl rfl (by decide +kernel) ⟨Nat.le_of_ble_eq_true rfl, Nat.le_of_ble_eq_true rfl⟩) va_P_nil hY rfl hl.1 rfl (lv_room (Nat.le_of_ble_eq_true rfl)) dX7_noPlace_4 ⟨Nat.zero_le _, Nat.zero_le _⟩ ?_
  refine lv_if_ne (tgt := 14) hx hb dX7_noPlace_7 (by decide) (fun h7_1 => ?_) (fun h7_1 => ?_)
  · exact absurd rfl h7_1
  · refine lv_iconst (v := 1) hx hb dX7_noPlace_10 (by decide) ?_
    refine lv_goto (tgt := 34) hx hb dX7_noPlace_11 (by decide) ?_
    refine wrV [] (wMo G ad o r) [] (wMo G ad o (1, r.2)) (As := [.int 1]) (rest := []) CF (k1_X7_refused l G ad o r 1 (by decide)) (cwV 1 hts gX7_noPlace_X7_refused rfl rfl rfl (by decide +kernel) ⟨Nat.le_of_ble_eq_true rfl, Nat.le_of_ble_eq_true rfl⟩) hP hD hS hA hY rfl rfl (fst_Mo _ _ _ _ _) rfl hl.1 rfl (lv_room (Nat.le_of_ble_eq_true rfl)) dX7_noPlace_34 ⟨Nat.zero_le _, Nat.zero_le _⟩ (fun H locs hP hD hS => ?_)
    have hP : va_P G.1 vwCl (wMo G ad o (1, r.2)) H := hP
    have hD : va_D A (wMo G ad o (1, r.2)) := hD
    exact wr_zret hx hb hr hlk hS hP (by first | with_reducible rfl | (simp only [sld_eq, eq_true h7_1, ↓reduceIte]; done)) (by first | with_reducible rfl | (simp only [sld_eq, eq_true h7_1, ↓reduceIte]; done)) rfl dX7_noPlace_37

set_option maxHeartbeats 4000000 in
set_option maxRecDepth 100000 in
theorem km_X7_noPlace (l : Launch) (G : GT) (ad : Nat → Nat) (o : Nat) (r : MoT) (st pl : Int32) (h0 : okA st 0 2) (h1 : ¬ okA pl 0 (mSam r.2.2.2.1 r.2.1 st - 1)) : Wr l yX7_noPlace wsX7_noPlace { frames := 2, cells := 0, slots := 0, locals := 42 } G (wMo G ad o r) (wMo G ad o (2, r.2)) [.ref (ad o), .int st, .int pl] (some (.int 1)) := by
  intro sz
  refine Met.ofW (cc := cX7_noPlace) (maxL := 3) (ret := (some .boolean)) (by decide) rfl ?_
  intro p e s m args below meth c s₁ B hml hv
  obtain ⟨rfl, hsz, hP, hY, hD0⟩ := hv
  subst hsz
  have hD := hD0.self (sz := s.heap.size)
  generalize hAe : va_A (wMo G ad o r) s.heap.size = A at hD ⊢
  have hA : ∀ q : Nat, s.heap.size ≤ q → A q := fun q h => by rw [← hAe]; exact Or.inr h
  have hS : va_S A s.heap s.heap [] := va_S.rf
  have hx := B.exec
  have hb := B.bytes
  have hr := B.returns
  have hts := atoms_spec (ws := wsX7_noPlace) B.pre
  have hown : s.vm.findClass RX7 = some m.cls := findClass_of_methodNamed B.named
  have hlk := B.notSynchronized
  have CF : CallFix p m c cX7_noPlace 3 s _ wsX7_noPlace RX7 := ⟨hx, hb, hml, hown, hts⟩
  have hl := lv_entry ([.ref (ad o), .int st, .int pl]) (n := 3) (Nat.le_of_ble_eq_true rfl)
  rw [lg_entry_eq]
  generalize (lg_sl ([.ref (ad o), .int st, .int pl]) ++ List.replicate (3 - (lg_sl ([.ref (ad o), .int st, .int pl])).length) Slot.unset).toArray = ls at hl ⊢
  have hl : lv_has ls 3 [(0, .ref (ad o)), (1, .int st), (2, .int pl)] := hl
  refine lv_aload_n hx hb dX7_noPlace_0 rfl (lv_at hl 0 rfl) ?_
  refine lv_iload_n hx hb dX7_noPlace_1 rfl (lv_at hl 1 rfl) ?_
  refine lv_iconst (v := 0) hx hb dX7_noPlace_2 (by decide) ?_
  refine lv_iconst (v := 2) hx hb dX7_noPlace_3 (by decide) ?_
  refine rdS (w0 := ([] : va_W)) (As := [.int st, .int 0, .int 2]) (rest := [.ref (ad o)]) CF (k_X7_in l G st 0 2 h0) (va_cwS 3 hts gX7_noPlace_X7_in rfl rfl rfl (by decide +kernel) ⟨Nat.le_of_ble_eq_true rfl, Nat.le_of_ble_eq_true rfl⟩) va_P_nil hY rfl hl.1 rfl (lv_room (Nat.le_of_ble_eq_true rfl)) dX7_noPlace_4 ⟨Nat.zero_le _, Nat.zero_le _⟩ ?_
  refine lv_if_ne (tgt := 14) hx hb dX7_noPlace_7 (by decide) (fun h7_1 => ?_) (fun h7_1 => ?_)
  · refine lv_iload_n hx hb dX7_noPlace_14 rfl (lv_at hl 2 rfl) ?_
    refine lv_iconst (v := 0) hx hb dX7_noPlace_15 (by decide) ?_
    refine lv_aload_n hx hb dX7_noPlace_16 rfl (lv_at hl 0 rfl) ?_
    refine lv_iload_n hx hb dX7_noPlace_17 rfl (lv_at hl 1 rfl) ?_
    refine rdV (w0 := (wMo G ad o r)) (As := [.int st]) (rest := [.int 0, .int pl, .ref (ad o)]) CF (k_X7_sampled l G ad o r st h0) (cwV 1 hts gX7_noPlace_X7_sampled rfl rfl rfl (by decide +kernel) ⟨Nat.le_of_ble_eq_true rfl, Nat.le_of_ble_eq_true rfl⟩) hP hY rfl rfl rfl hl.1 rfl (lv_room (Nat.le_of_ble_eq_true rfl)) dX7_noPlace_18 ⟨Nat.zero_le _, Nat.zero_le _⟩ ?_
    refine lv_iconst (v := 1) hx hb dX7_noPlace_21 (by decide) ?_
    refine lv_isub hx hb dX7_noPlace_22 ?_
    refine rdS (w0 := ([] : va_W)) (As := [.int pl, .int 0, .int ((mSam r.2.2.2.1 r.2.1 st) - 1)]) (rest := [.ref (ad o)]) CF (kn_X7_in l G pl 0 ((mSam r.2.2.2.1 r.2.1 st) - 1) h1) (va_cwS 3 hts gX7_noPlace_X7_in rfl rfl rfl (by decide +kernel) ⟨Nat.le_of_ble_eq_true rfl, Nat.le_of_ble_eq_true rfl⟩) va_P_nil hY rfl hl.1 rfl (lv_room (Nat.le_of_ble_eq_true rfl)) dX7_noPlace_23 ⟨Nat.zero_le _, Nat.zero_le _⟩ ?_
    refine lv_if_eq (tgt := 33) hx hb dX7_noPlace_26 (by decide) (fun h26_2 => ?_) (fun h26_2 => ?_)
    · refine lv_iconst (v := 2) hx hb dX7_noPlace_33 (by decide) ?_
      refine wrV [] (wMo G ad o r) [] (wMo G ad o (2, r.2)) (As := [.int 2]) (rest := []) CF (k1_X7_refused l G ad o r 2 (by decide)) (cwV 1 hts gX7_noPlace_X7_refused rfl rfl rfl (by decide +kernel) ⟨Nat.le_of_ble_eq_true rfl, Nat.le_of_ble_eq_true rfl⟩) hP hD hS hA hY rfl rfl (fst_Mo _ _ _ _ _) rfl hl.1 rfl (lv_room (Nat.le_of_ble_eq_true rfl)) dX7_noPlace_34 ⟨Nat.zero_le _, Nat.zero_le _⟩ (fun H locs hP hD hS => ?_)
      have hP : va_P G.1 vwCl (wMo G ad o (2, r.2)) H := hP
      have hD : va_D A (wMo G ad o (2, r.2)) := hD
      exact wr_zret hx hb hr hlk hS hP (by first | with_reducible rfl | (simp only [sld_eq, h7_1, eq_true h26_2, ↓reduceIte]; done)) (by first | with_reducible rfl | (simp only [sld_eq, h7_1, eq_true h26_2, ↓reduceIte]; done)) rfl dX7_noPlace_37
    · exact absurd rfl h26_2
  · exact absurd h7_1 (by decide)
