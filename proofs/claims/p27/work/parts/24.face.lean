set_option maxHeartbeats 4000000 in
set_option maxRecDepth 100000 in
theorem k_X6_prioritySize (l : Launch) (G : GT) (ad : Nat → Nat) (o : Nat) (sg : RRT) (st : Int32) (h0 : okA st 0 2) : Wr l yX6_prioritySize wsX6_prioritySize { frames := 7, cells := 0, slots := 0, locals := 136 } G (wRR G ad o sg) (wRR G ad o (rrMP sg st)) [.ref (ad o), .int st] (some (.int (priSampled (rrPri sg st)))) := by
  intro sz
  obtain ⟨k, s0, s1, mp, md⟩ := sg
  refine Met.ofW (cc := cX6_prioritySize) (maxL := 2) (ret := (some .int)) (by decide) rfl ?_
  intro p e s m args below meth c s₁ B hml hv
  obtain ⟨rfl, hsz, hP, hY, hD0⟩ := hv
  subst hsz
  have hD := hD0.self (sz := s.heap.size)
  generalize hAe : va_A (wRR G ad o (k, s0, s1, mp, md)) s.heap.size = A at hD ⊢
  have hA : ∀ q : Nat, s.heap.size ≤ q → A q := fun q h => by rw [← hAe]; exact Or.inr h
  have hS : va_S A s.heap s.heap [] := va_S.rf
  have hx := B.exec
  have hb := B.bytes
  have hr := B.returns
  have hts := atoms_spec (ws := wsX6_prioritySize) B.pre
  have hown : s.vm.findClass RX6 = some m.cls := findClass_of_methodNamed B.named
  have hlk := B.notSynchronized
  have CF : CallFix p m c cX6_prioritySize 2 s _ wsX6_prioritySize RX6 := ⟨hx, hb, hml, hown, hts⟩
  have hl := lv_entry ([.ref (ad o), .int st]) (n := 2) (Nat.le_of_ble_eq_true rfl)
  rw [lg_entry_eq]
  generalize (lg_sl ([.ref (ad o), .int st]) ++ List.replicate (2 - (lg_sl ([.ref (ad o), .int st])).length) Slot.unset).toArray = ls at hl ⊢
  have hl : lv_has ls 2 [(0, .ref (ad o)), (1, .int st)] := hl
  refine lv_iload_n hx hb dX6_prioritySize_0 rfl (lv_at hl 1 rfl) ?_
  refine lv_iconst (v := 0) hx hb dX6_prioritySize_1 (by decide) ?_
  refine lv_iconst (v := 2) hx hb dX6_prioritySize_2 (by decide) ?_
  refine rvS (w0 := []) (As := [.int st, .int 0, .int 2]) (rest := []) CF (k_X6_checkArgument l G st 0 2 h0) (va_cwS 3 hts gX6_prioritySize_X6_checkArgument rfl rfl rfl (by decide +kernel) ⟨Nat.le_of_ble_eq_true rfl, Nat.le_of_ble_eq_true rfl⟩) va_P_nil hY rfl hl.1 rfl (lv_room (Nat.le_of_ble_eq_true rfl)) dX6_prioritySize_3 ⟨Nat.zero_le _, Nat.zero_le _⟩ ?_
  refine lv_aload_n hx hb dX6_prioritySize_6 rfl (lv_at hl 0 rfl) ?_
  refine lv_iload_n hx hb dX6_prioritySize_7 rfl (lv_at hl 1 rfl) ?_
  by_cases q8_1 : st = 2
  · refine wrV [] (wRR G ad o (k, s0, s1, mp, md)) [] (wRR G ad o (rrMP (k, s0, s1, mp, md) st)) (As := [.int st]) (rest := []) CF (k2_X6_prioritiesOf l G ad o (k, s0, s1, mp, md) st q8_1) (cwV 1 hts gX6_prioritySize_X6_prioritiesOf rfl rfl rfl (by decide +kernel) ⟨Nat.le_of_ble_eq_true rfl, Nat.le_of_ble_eq_true rfl⟩) hP hD hS hA hY rfl rfl (fst_RR _ _ _ _ _) rfl hl.1 rfl (lv_room (Nat.le_of_ble_eq_true rfl)) dX6_prioritySize_8 ⟨Nat.zero_le _, Nat.zero_le _⟩ (fun H locs hP hD hS => ?_)
    have hP : va_P G.1 vwCl (wRR G ad o (rrMP (k, s0, s1, mp, md) st)) H := hP
    have hD : va_D A (wRR G ad o (rrMP (k, s0, s1, mp, md) st)) := hD
    have hQ2 := va_P.subm (u := wPri G ad (o+63) ((rrMP (k, s0, s1, mp, md) st).2.2.2.1)) (fun q h => by simp only [wRR, List.mem_cons, List.mem_append, h, true_or, or_true]) hP
    refine rdV (w0 := (wPri G ad (o+63) ((rrMP (k, s0, s1, mp, md) st).2.2.2.1))) (As := []) (rest := []) CF (k_X3_sampled l G ad (o+63) ((rrMP (k, s0, s1, mp, md) st).2.2.2.1)) (cwV 0 hts gX6_prioritySize_X3_sampled rfl rfl rfl (by decide +kernel) ⟨Nat.le_of_ble_eq_true rfl, Nat.le_of_ble_eq_true rfl⟩) hQ2 hY rfl rfl rfl hl.1 rfl (lv_room (Nat.le_of_ble_eq_true rfl)) dX6_prioritySize_11 ⟨Nat.zero_le _, Nat.zero_le _⟩ ?_
    exact wr_iret hx hb hr hlk hS hP (by first | with_reducible rfl | (simp only [rrMP, rrPri, rrPriM, sld_eq, eq_true q8_1, ↓reduceIte]; done)) (by first | with_reducible rfl | (simp only [rrMP, rrPri, rrPriM, sld_eq, eq_true q8_1, ↓reduceIte]; done)) dX6_prioritySize_14
  · by_cases q8_3 : st = 0
    · refine rdV (w0 := (wRR G ad o (k, s0, s1, mp, md))) (As := [.int st]) (rest := []) CF (k0_X6_prioritiesOf l G ad o (k, s0, s1, mp, md) st q8_1 q8_3) (cwV 1 hts gX6_prioritySize_X6_prioritiesOf rfl rfl rfl (by decide +kernel) ⟨Nat.le_of_ble_eq_true rfl, Nat.le_of_ble_eq_true rfl⟩) hP hY rfl rfl rfl hl.1 rfl (lv_room (Nat.le_of_ble_eq_true rfl)) dX6_prioritySize_8 ⟨Nat.zero_le _, Nat.zero_le _⟩ ?_
      have hQ4 := va_P.subm (u := wPri G ad (o+1+20) s0.2.2.2.2.2.2.2.2.1) (fun q h => by simp only [wStr, wRR, List.mem_cons, List.mem_append, h, true_or, or_true]) hP
      refine rdV (w0 := (wPri G ad (o+1+20) s0.2.2.2.2.2.2.2.2.1)) (As := []) (rest := []) CF (k_X3_sampled l G ad (o+1+20) s0.2.2.2.2.2.2.2.2.1) (cwV 0 hts gX6_prioritySize_X3_sampled rfl rfl rfl (by decide +kernel) ⟨Nat.le_of_ble_eq_true rfl, Nat.le_of_ble_eq_true rfl⟩) hQ4 hY rfl rfl rfl hl.1 rfl (lv_room (Nat.le_of_ble_eq_true rfl)) dX6_prioritySize_11 ⟨Nat.zero_le _, Nat.zero_le _⟩ ?_
      exact wr_iret hx hb hr hlk hS hP (by first | with_reducible rfl | (simp only [rrMP, rrPri, rrPriM, sld_eq, q8_1, eq_true q8_3, ↓reduceIte]; done)) (by first | with_reducible rfl | (simp only [rrMP, rrPri, rrPriM, sld_eq, q8_1, eq_true q8_3, ↓reduceIte]; done)) dX6_prioritySize_14
    · refine rdV (w0 := (wRR G ad o (k, s0, s1, mp, md))) (As := [.int st]) (rest := []) CF (k1_X6_prioritiesOf l G ad o (k, s0, s1, mp, md) st q8_1 q8_3) (cwV 1 hts gX6_prioritySize_X6_prioritiesOf rfl rfl rfl (by decide +kernel) ⟨Nat.le_of_ble_eq_true rfl, Nat.le_of_ble_eq_true rfl⟩) hP hY rfl rfl rfl hl.1 rfl (lv_room (Nat.le_of_ble_eq_true rfl)) dX6_prioritySize_8 ⟨Nat.zero_le _, Nat.zero_le _⟩ ?_
      have hQ5 := va_P.subm (u := wPri G ad (o+32+20) s1.2.2.2.2.2.2.2.2.1) (fun q h => by simp only [wStr, wRR, List.mem_cons, List.mem_append, h, true_or, or_true]) hP
      refine rdV (w0 := (wPri G ad (o+32+20) s1.2.2.2.2.2.2.2.2.1)) (As := []) (rest := []) CF (k_X3_sampled l G ad (o+32+20) s1.2.2.2.2.2.2.2.2.1) (cwV 0 hts gX6_prioritySize_X3_sampled rfl rfl rfl (by decide +kernel) ⟨Nat.le_of_ble_eq_true rfl, Nat.le_of_ble_eq_true rfl⟩) hQ5 hY rfl rfl rfl hl.1 rfl (lv_room (Nat.le_of_ble_eq_true rfl)) dX6_prioritySize_11 ⟨Nat.zero_le _, Nat.zero_le _⟩ ?_
      exact wr_iret hx hb hr hlk hS hP (by first | with_reducible rfl | (simp only [rrMP, rrPri, rrPriM, sld_eq, q8_1, q8_3, ↓reduceIte]; done)) (by first | with_reducible rfl | (simp only [rrMP, rrPri, rrPriM, sld_eq, q8_1, q8_3, ↓reduceIte]; done)) dX6_prioritySize_14

set_option maxHeartbeats 4000000 in
set_option maxRecDepth 100000 in
theorem kn_X6_prioritySize (l : Launch) (hl0 : l.stackTraces = false) (G : GT) (ad : Nat → Nat) (o : Nat) (sg : RRT) (st : Int32) (hk : ¬ (okA st 0 2)) : No l yX6_prioritySize wsX6_prioritySize { frames := 7, cells := 1, slots := 6, locals := 136 } G (wRR G ad o sg) (wRR G ad o sg) [.ref (ad o), .int st] "java/lang/IllegalArgumentException" := by
  intro sz
  obtain ⟨k, s0, s1, mp, md⟩ := sg
  refine vx_ofW (cc := cX6_prioritySize) (maxL := 2) (ret := (some .int)) (by decide) rfl ?_
  intro p e s m args below meth c s₁ B hml ht hv
  obtain ⟨rfl, hsz, hP, hY, hD0, hZ0⟩ := hv
  subst hsz
  have hD := hD0.self (sz := s.heap.size)
  generalize hAe : va_A (wRR G ad o (k, s0, s1, mp, md)) s.heap.size = A at hD hZ0 ⊢
  have hZ : Zs A s s.heap := hZ0
  have hA : ∀ q : Nat, s.heap.size ≤ q → A q := fun q h => by rw [← hAe]; exact Or.inr h
  have hS : va_S A s.heap s.heap [] := va_S.rf
  have hx := B.exec
  have hb := B.bytes
  have hr := B.returns
  have hts := atoms_spec (ws := wsX6_prioritySize) B.pre
  have hown : s.vm.findClass RX6 = some m.cls := findClass_of_methodNamed B.named
  have hlk := B.notSynchronized
  have CF : CallFix p m c cX6_prioritySize 2 s _ wsX6_prioritySize RX6 := ⟨hx, hb, hml, hown, hts⟩
  have hl := lv_entry ([.ref (ad o), .int st]) (n := 2) (Nat.le_of_ble_eq_true rfl)
  rw [lg_entry_eq]
  generalize (lg_sl ([.ref (ad o), .int st]) ++ List.replicate (2 - (lg_sl ([.ref (ad o), .int st])).length) Slot.unset).toArray = ls at hl ⊢
  have hl : lv_has ls 2 [(0, .ref (ad o)), (1, .int st)] := hl
  refine lv_iload_n hx hb dX6_prioritySize_0 rfl (lv_at hl 1 rfl) ?_
  refine lv_iconst (v := 0) hx hb dX6_prioritySize_1 (by decide) ?_
  refine lv_iconst (v := 2) hx hb dX6_prioritySize_2 (by decide) ?_
  by_cases q3_1 : okA st 0 2
  · refine rvS (w0 := []) (As := [.int st, .int 0, .int 2]) (rest := []) CF (k_X6_checkArgument l G st 0 2 q3_1) (va_cwS 3 hts gX6_prioritySize_X6_checkArgument rfl rfl rfl (by decide +kernel) ⟨Nat.le_of_ble_eq_true rfl, Nat.le_of_ble_eq_true rfl⟩) va_P_nil hY rfl hl.1 rfl (lv_room (Nat.le_of_ble_eq_true rfl)) dX6_prioritySize_3 ⟨Nat.zero_le _, Nat.zero_le _⟩ ?_
    exact absurd q3_1 hk
  · refine noS0 (As := [.int st, .int 0, .int 2]) (rest := []) CF (kn_X6_checkArgument l hl0 G st 0 2 q3_1) (va_cwS 3 hts gX6_prioritySize_X6_checkArgument rfl rfl rfl (by decide +kernel) ⟨Nat.le_of_ble_eq_true rfl, Nat.le_of_ble_eq_true rfl⟩) hP hD hS hA hY hZ rfl hl.1 rfl (lv_room (Nat.le_of_ble_eq_true rfl)) dX6_prioritySize_3 ⟨Nat.le_of_ble_eq_true rfl, Nat.le_of_ble_eq_true rfl⟩ (fun ce q9 H locs hP hD hS hce hcv hcl hgr => ?_)
    exact no_out ht hlk hce hcv hcl hgr hS hP (by first | with_reducible rfl | (simp only [rrMP, rrPri, rrPriM, sld_eq, q3_1, ↓reduceIte]; done))

set_option maxHeartbeats 4000000 in
set_option maxRecDepth 100000 in
theorem k_X6_priorityItem (l : Launch) (G : GT) (ad : Nat → Nat) (o : Nat) (sg : RRT) (st sl : Int32) (h0 : okA st 0 2) (hs : okP sl (priSampled (rrPri sg st))) : Wr l yX6_priorityItem wsX6_priorityItem { frames := 7, cells := 0, slots := 0, locals := 136 } G (wRR G ad o sg) (wRR G ad o (rrMP sg st)) [.ref (ad o), .int st, .int sl] (some (.int (at_ 17 (rrPri sg st).2.2.1 sl))) := by
  intro sz
  obtain ⟨k, s0, s1, mp, md⟩ := sg
  refine Met.ofW (cc := cX6_priorityItem) (maxL := 4) (ret := (some .int)) (by decide) rfl ?_
  intro p e s m args below meth c s₁ B hml hv
  obtain ⟨rfl, hsz, hP, hY, hD0⟩ := hv
  subst hsz
  have hD := hD0.self (sz := s.heap.size)
  generalize hAe : va_A (wRR G ad o (k, s0, s1, mp, md)) s.heap.size = A at hD ⊢
  have hA : ∀ q : Nat, s.heap.size ≤ q → A q := fun q h => by rw [← hAe]; exact Or.inr h
  have hS : va_S A s.heap s.heap [] := va_S.rf
  have hx := B.exec
  have hb := B.bytes
  have hr := B.returns
  have hts := atoms_spec (ws := wsX6_priorityItem) B.pre
  have hown : s.vm.findClass RX6 = some m.cls := findClass_of_methodNamed B.named
  have hlk := B.notSynchronized
  have CF : CallFix p m c cX6_priorityItem 4 s _ wsX6_priorityItem RX6 := ⟨hx, hb, hml, hown, hts⟩
  have hiX3 : ∀ w ∈ wsX30, w ∈ wsX6_priorityItem := fun w h => (List.mem_cons_of_mem _ (List.mem_append_left _ (List.mem_append_left _ (List.mem_append_left _ (List.mem_append_left _ (List.mem_append_right _ h))))))
  have hl := lv_entry ([.ref (ad o), .int st, .int sl]) (n := 4) (Nat.le_of_ble_eq_true rfl)
  rw [lg_entry_eq]
  generalize (lg_sl ([.ref (ad o), .int st, .int sl]) ++ List.replicate (4 - (lg_sl ([.ref (ad o), .int st, .int sl])).length) Slot.unset).toArray = ls at hl ⊢
  have hl : lv_has ls 4 [(0, .ref (ad o)), (1, .int st), (2, .int sl)] := hl
  refine lv_iload_n hx hb dX6_priorityItem_0 rfl (lv_at hl 1 rfl) ?_
  refine lv_iconst (v := 0) hx hb dX6_priorityItem_1 (by decide) ?_
  refine lv_iconst (v := 2) hx hb dX6_priorityItem_2 (by decide) ?_
  refine rvS (w0 := []) (As := [.int st, .int 0, .int 2]) (rest := []) CF (k_X6_checkArgument l G st 0 2 h0) (va_cwS 3 hts gX6_priorityItem_X6_checkArgument rfl rfl rfl (by decide +kernel) ⟨Nat.le_of_ble_eq_true rfl, Nat.le_of_ble_eq_true rfl⟩) va_P_nil hY rfl hl.1 rfl (lv_room (Nat.le_of_ble_eq_true rfl)) dX6_priorityItem_3 ⟨Nat.zero_le _, Nat.zero_le _⟩ ?_
  refine lv_aload_n hx hb dX6_priorityItem_6 rfl (lv_at hl 0 rfl) ?_
  refine lv_iload_n hx hb dX6_priorityItem_7 rfl (lv_at hl 1 rfl) ?_
  by_cases q8_1 : st = 2
  · refine wrV [] (wRR G ad o (k, s0, s1, mp, md)) [] (wRR G ad o (rrMP (k, s0, s1, mp, md) st)) (As := [.int st]) (rest := []) CF (k2_X6_prioritiesOf l G ad o (k, s0, s1, mp, md) st q8_1) (cwV 1 hts gX6_priorityItem_X6_prioritiesOf rfl rfl rfl (by decide +kernel) ⟨Nat.le_of_ble_eq_true rfl, Nat.le_of_ble_eq_true rfl⟩) hP hD hS hA hY rfl rfl (fst_RR _ _ _ _ _) rfl hl.1 rfl (lv_room (Nat.le_of_ble_eq_true rfl)) dX6_priorityItem_8 ⟨Nat.zero_le _, Nat.zero_le _⟩ (fun H locs hP hD hS => ?_)
    have hP : va_P G.1 vwCl (wRR G ad o (rrMP (k, s0, s1, mp, md) st)) H := hP
    have hD : va_D A (wRR G ad o (rrMP (k, s0, s1, mp, md) st)) := hD
    refine lv_astore_n (lv' := [(3, .ref (ad (o+63))), (0, .ref (ad o)), (1, .int st), (2, .int sl)]) hx hb dX6_priorityItem_11 rfl hl (by decide) rfl (fun ls hl => ?_)
    refine lv_iload_n hx hb dX6_priorityItem_12 rfl (lv_at hl 3 rfl) ?_
    refine lv_aload_n hx hb dX6_priorityItem_13 rfl (lv_at hl 0 rfl) ?_
    have hQ2 := va_P.subm (u := wPri G ad (o+63) ((rrMP (k, s0, s1, mp, md) st).2.2.2.1)) (fun q h => by simp only [wRR, List.mem_cons, List.mem_append, h, true_or, or_true]) hP
    refine rdV (w0 := (wPri G ad (o+63) ((rrMP (k, s0, s1, mp, md) st).2.2.2.1))) (As := []) (rest := [.int sl]) CF (k_X3_sampled l G ad (o+63) ((rrMP (k, s0, s1, mp, md) st).2.2.2.1)) (cwV 0 hts gX6_priorityItem_X3_sampled rfl rfl rfl (by decide +kernel) ⟨Nat.le_of_ble_eq_true rfl, Nat.le_of_ble_eq_true rfl⟩) hQ2 hY rfl rfl rfl hl.1 rfl (lv_room (Nat.le_of_ble_eq_true rfl)) dX6_priorityItem_14 ⟨Nat.zero_le _, Nat.zero_le _⟩ ?_
    refine rvS (w0 := []) (As := [.int sl, .int (priSampled ((rrMP (k, s0, s1, mp, md) st).2.2.2.1))]) (rest := []) CF (k_X6_checkPlace l G sl (priSampled ((rrMP (k, s0, s1, mp, md) st).2.2.2.1)) (by simpa only [rrMP, rrPri, rrPriM, eq_true q8_1, ↓reduceIte] using hs)) (va_cwS 2 hts gX6_priorityItem_X6_checkPlace rfl rfl rfl (by decide +kernel) ⟨Nat.le_of_ble_eq_true rfl, Nat.le_of_ble_eq_true rfl⟩) va_P_nil hY rfl hl.1 rfl (lv_room (Nat.le_of_ble_eq_true rfl)) dX6_priorityItem_17 ⟨Nat.zero_le _, Nat.zero_le _⟩ ?_
    refine lv_aload_n hx hb dX6_priorityItem_20 rfl (lv_at hl 0 rfl) ?_
    have hQ3 := va_P.subm (u := wPri G ad (o+63) ((rrMP (k, s0, s1, mp, md) st).2.2.2.1)) (fun q h => by simp only [wRR, List.mem_cons, List.mem_append, h, true_or, or_true]) hP
    refine va_getN (D := G.1) (ci := 3) (v := .ref (ad (o+63+1))) (C := RX3) (T := TX3) (N := 6) hx hb hts hiX3 hown hY.1 hQ3 0 rfl rfl 0 (by decide) (va_Nw.use rfl (hY.2.1 (.fieldLinkNest RX6 106 RX3 "items" "[I" RX6) (List.mem_of_getElem? (i := 0) rfl))) (fun _ h9 => h9) rfl dX6_priorityItem_21 ?_
    refine lv_iload_n hx hb dX6_priorityItem_24 rfl (lv_at hl 3 rfl) ?_
    have hQ4 := va_P.subm (u := wPri G ad (o+63) ((rrMP (k, s0, s1, mp, md) st).2.2.2.1)) (fun q h => by simp only [wRR, List.mem_cons, List.mem_append, h, true_or, or_true]) hP
    refine rdS (w0 := [(ad (o+63+1), .inl (G.2.1, 17, .inl (((rrMP (k, s0, s1, mp, md) st).2.2.2.1).2.2.1)))]) (As := [.ref (ad (o+63+1)), .int sl]) (rest := []) CF (k_X6_at l G 17 (ad (o+63+1)) (((rrMP (k, s0, s1, mp, md) st).2.2.2.1).2.2.1) sl (by decide)) (va_cwS 2 hts gX6_priorityItem_X6_at rfl rfl rfl (by decide +kernel) ⟨Nat.le_of_ble_eq_true rfl, Nat.le_of_ble_eq_true rfl⟩) (hQ4.sub (ws' := [(ad (o+63+1), .inl (G.2.1, 17, .inl (((rrMP (k, s0, s1, mp, md) st).2.2.2.1).2.2.1)))]) [1] rfl) hY rfl hl.1 rfl (lv_room (Nat.le_of_ble_eq_true rfl)) dX6_priorityItem_25 ⟨Nat.zero_le _, Nat.zero_le _⟩ ?_
    exact wr_iret hx hb hr hlk hS hP (by first | with_reducible rfl | (simp only [rrMP, rrPri, rrPriM, sld_eq, eq_true q8_1, ↓reduceIte]; done)) (by first | with_reducible rfl | (simp only [rrMP, rrPri, rrPriM, sld_eq, eq_true q8_1, ↓reduceIte]; done)) dX6_priorityItem_28
  · by_cases q8_5 : st = 0
    · refine rdV (w0 := (wRR G ad o (k, s0, s1, mp, md))) (As := [.int st]) (rest := []) CF (k0_X6_prioritiesOf l G ad o (k, s0, s1, mp, md) st q8_1 q8_5) (cwV 1 hts gX6_priorityItem_X6_prioritiesOf rfl rfl rfl (by decide +kernel) ⟨Nat.le_of_ble_eq_true rfl, Nat.le_of_ble_eq_true rfl⟩) hP hY rfl rfl rfl hl.1 rfl (lv_room (Nat.le_of_ble_eq_true rfl)) dX6_priorityItem_8 ⟨Nat.zero_le _, Nat.zero_le _⟩ ?_
      refine lv_astore_n (lv' := [(3, .ref (ad (o+1+20))), (0, .ref (ad o)), (1, .int st), (2, .int sl)]) hx hb dX6_priorityItem_11 rfl hl (by decide) rfl (fun ls hl => ?_)
      refine lv_iload_n hx hb dX6_priorityItem_12 rfl (lv_at hl 3 rfl) ?_
      refine lv_aload_n hx hb dX6_priorityItem_13 rfl (lv_at hl 0 rfl) ?_
      have hQ6 := va_P.subm (u := wPri G ad (o+1+20) s0.2.2.2.2.2.2.2.2.1) (fun q h => by simp only [wStr, wRR, List.mem_cons, List.mem_append, h, true_or, or_true]) hP
      refine rdV (w0 := (wPri G ad (o+1+20) s0.2.2.2.2.2.2.2.2.1)) (As := []) (rest := [.int sl]) CF (k_X3_sampled l G ad (o+1+20) s0.2.2.2.2.2.2.2.2.1) (cwV 0 hts gX6_priorityItem_X3_sampled rfl rfl rfl (by decide +kernel) ⟨Nat.le_of_ble_eq_true rfl, Nat.le_of_ble_eq_true rfl⟩) hQ6 hY rfl rfl rfl hl.1 rfl (lv_room (Nat.le_of_ble_eq_true rfl)) dX6_priorityItem_14 ⟨Nat.zero_le _, Nat.zero_le _⟩ ?_
      refine rvS (w0 := []) (As := [.int sl, .int (priSampled s0.2.2.2.2.2.2.2.2.1)]) (rest := []) CF (k_X6_checkPlace l G sl (priSampled s0.2.2.2.2.2.2.2.2.1) (by simpa only [rrMP, rrPri, rrPriM, q8_1, eq_true q8_5, ↓reduceIte] using hs)) (va_cwS 2 hts gX6_priorityItem_X6_checkPlace rfl rfl rfl (by decide +kernel) ⟨Nat.le_of_ble_eq_true rfl, Nat.le_of_ble_eq_true rfl⟩) va_P_nil hY rfl hl.1 rfl (lv_room (Nat.le_of_ble_eq_true rfl)) dX6_priorityItem_17 ⟨Nat.zero_le _, Nat.zero_le _⟩ ?_
      refine lv_aload_n hx hb dX6_priorityItem_20 rfl (lv_at hl 0 rfl) ?_
      have hQ7 := va_P.subm (u := wPri G ad (o+1+20) s0.2.2.2.2.2.2.2.2.1) (fun q h => by simp only [wStr, wRR, List.mem_cons, List.mem_append, h, true_or, or_true]) hP
      refine va_getN (D := G.1) (ci := 3) (v := .ref (ad (o+1+20+1))) (C := RX3) (T := TX3) (N := 6) hx hb hts hiX3 hown hY.1 hQ7 0 rfl rfl 0 (by decide) (va_Nw.use rfl (hY.2.1 (.fieldLinkNest RX6 106 RX3 "items" "[I" RX6) (List.mem_of_getElem? (i := 0) rfl))) (fun _ h9 => h9) rfl dX6_priorityItem_21 ?_
      refine lv_iload_n hx hb dX6_priorityItem_24 rfl (lv_at hl 3 rfl) ?_
      have hQ8 := va_P.subm (u := wPri G ad (o+1+20) s0.2.2.2.2.2.2.2.2.1) (fun q h => by simp only [wStr, wRR, List.mem_cons, List.mem_append, h, true_or, or_true]) hP
      refine rdS (w0 := [(ad (o+1+20+1), .inl (G.2.1, 17, .inl s0.2.2.2.2.2.2.2.2.1.2.2.1))]) (As := [.ref (ad (o+1+20+1)), .int sl]) (rest := []) CF (k_X6_at l G 17 (ad (o+1+20+1)) s0.2.2.2.2.2.2.2.2.1.2.2.1 sl (by decide)) (va_cwS 2 hts gX6_priorityItem_X6_at rfl rfl rfl (by decide +kernel) ⟨Nat.le_of_ble_eq_true rfl, Nat.le_of_ble_eq_true rfl⟩) (hQ8.sub (ws' := [(ad (o+1+20+1), .inl (G.2.1, 17, .inl s0.2.2.2.2.2.2.2.2.1.2.2.1))]) [1] rfl) hY rfl hl.1 rfl (lv_room (Nat.le_of_ble_eq_true rfl)) dX6_priorityItem_25 ⟨Nat.zero_le _, Nat.zero_le _⟩ ?_
      exact wr_iret hx hb hr hlk hS hP (by first | with_reducible rfl | (simp only [rrMP, rrPri, rrPriM, sld_eq, q8_1, eq_true q8_5, ↓reduceIte]; done)) (by first | with_reducible rfl | (simp only [rrMP, rrPri, rrPriM, sld_eq, q8_1, eq_true q8_5, ↓reduceIte]; done)) dX6_priorityItem_28
    · refine rdV (w0 := (wRR G ad o (k, s0, s1, mp, md))) (As := [.int st]) (rest := []) CF (k1_X6_prioritiesOf l G ad o (k, s0, s1, mp, md) st q8_1 q8_5) (cwV 1 hts gX6_priorityItem_X6_prioritiesOf rfl rfl rfl (by decide +kernel) ⟨Nat.le_of_ble_eq_true rfl, Nat.le_of_ble_eq_true rfl⟩) hP hY rfl rfl rfl hl.1 rfl (lv_room (Nat.le_of_ble_eq_true rfl)) dX6_priorityItem_8 ⟨Nat.zero_le _, Nat.zero_le _⟩ ?_
      refine lv_astore_n (lv' := [(3, .ref (ad (o+32+20))), (0, .ref (ad o)), (1, .int st), (2, .int sl)]) hx hb dX6_priorityItem_11 rfl hl (by decide) rfl (fun ls hl => ?_)
      refine lv_iload_n hx hb dX6_priorityItem_12 rfl (lv_at hl 3 rfl) ?_
      refine lv_aload_n hx hb dX6_priorityItem_13 rfl (lv_at hl 0 rfl) ?_
      have hQ9 := va_P.subm (u := wPri G ad (o+32+20) s1.2.2.2.2.2.2.2.2.1) (fun q h => by simp only [wStr, wRR, List.mem_cons, List.mem_append, h, true_or, or_true]) hP
      refine rdV (w0 := (wPri G ad (o+32+20) s1.2.2.2.2.2.2.2.2.1)) (As := []) (rest := [.int sl]) CF (k_X3_sampled l G ad (o+32+20) s1.2.2.2.2.2.2.2.2.1) (cwV 0 hts gX6_priorityItem_X3_sampled rfl rfl rfl (by decide +kernel) ⟨Nat.le_of_ble_eq_true rfl, Nat.le_of_ble_eq_true rfl⟩) hQ9 hY rfl rfl rfl hl.1 rfl (lv_room (Nat.le_of_ble_eq_true rfl)) dX6_priorityItem_14 ⟨Nat.zero_le _, Nat.zero_le _⟩ ?_
      refine rvS (w0 := []) (As := [.int sl, .int (priSampled s1.2.2.2.2.2.2.2.2.1)]) (rest := []) CF (k_X6_checkPlace l G sl (priSampled s1.2.2.2.2.2.2.2.2.1) (by simpa only [rrMP, rrPri, rrPriM, q8_1, q8_5, ↓reduceIte] using hs)) (va_cwS 2 hts gX6_priorityItem_X6_checkPlace rfl rfl rfl (by decide +kernel) ⟨Nat.le_of_ble_eq_true rfl, Nat.le_of_ble_eq_true rfl⟩) va_P_nil hY rfl hl.1 rfl (lv_room (Nat.le_of_ble_eq_true rfl)) dX6_priorityItem_17 ⟨Nat.zero_le _, Nat.zero_le _⟩ ?_
      refine lv_aload_n hx hb dX6_priorityItem_20 rfl (lv_at hl 0 rfl) ?_
      have hQ10 := va_P.subm (u := wPri G ad (o+32+20) s1.2.2.2.2.2.2.2.2.1) (fun q h => by simp only [wStr, wRR, List.mem_cons, List.mem_append, h, true_or, or_true]) hP
      refine va_getN (D := G.1) (ci := 3) (v := .ref (ad (o+32+20+1))) (C := RX3) (T := TX3) (N := 6) hx hb hts hiX3 hown hY.1 hQ10 0 rfl rfl 0 (by decide) (va_Nw.use rfl (hY.2.1 (.fieldLinkNest RX6 106 RX3 "items" "[I" RX6) (List.mem_of_getElem? (i := 0) rfl))) (fun _ h9 => h9) rfl dX6_priorityItem_21 ?_
      refine lv_iload_n hx hb dX6_priorityItem_24 rfl (lv_at hl 3 rfl) ?_
      have hQ11 := va_P.subm (u := wPri G ad (o+32+20) s1.2.2.2.2.2.2.2.2.1) (fun q h => by simp only [wStr, wRR, List.mem_cons, List.mem_append, h, true_or, or_true]) hP
      refine rdS (w0 := [(ad (o+32+20+1), .inl (G.2.1, 17, .inl s1.2.2.2.2.2.2.2.2.1.2.2.1))]) (As := [.ref (ad (o+32+20+1)), .int sl]) (rest := []) CF (k_X6_at l G 17 (ad (o+32+20+1)) s1.2.2.2.2.2.2.2.2.1.2.2.1 sl (by decide)) (va_cwS 2 hts gX6_priorityItem_X6_at rfl rfl rfl (by decide +kernel) ⟨Nat.le_of_ble_eq_true rfl, Nat.le_of_ble_eq_true rfl⟩) (hQ11.sub (ws' := [(ad (o+32+20+1), .inl (G.2.1, 17, .inl s1.2.2.2.2.2.2.2.2.1.2.2.1))]) [1] rfl) hY rfl hl.1 rfl (lv_room (Nat.le_of_ble_eq_true rfl)) dX6_priorityItem_25 ⟨Nat.zero_le _, Nat.zero_le _⟩ ?_
      exact wr_iret hx hb hr hlk hS hP (by first | with_reducible rfl | (simp only [rrMP, rrPri, rrPriM, sld_eq, q8_1, q8_5, ↓reduceIte]; done)) (by first | with_reducible rfl | (simp only [rrMP, rrPri, rrPriM, sld_eq, q8_1, q8_5, ↓reduceIte]; done)) dX6_priorityItem_28

set_option maxHeartbeats 4000000 in
set_option maxRecDepth 100000 in
theorem kn_X6_priorityItem (l : Launch) (hl0 : l.stackTraces = false) (G : GT) (ad : Nat → Nat) (o : Nat) (sg : RRT) (st sl : Int32) (hk : ¬ (okA st 0 2)) : No l yX6_priorityItem wsX6_priorityItem { frames := 7, cells := 1, slots := 6, locals := 136 } G (wRR G ad o sg) (wRR G ad o sg) [.ref (ad o), .int st, .int sl] "java/lang/IllegalArgumentException" := by
  intro sz
  obtain ⟨k, s0, s1, mp, md⟩ := sg
  refine vx_ofW (cc := cX6_priorityItem) (maxL := 4) (ret := (some .int)) (by decide) rfl ?_
  intro p e s m args below meth c s₁ B hml ht hv
  obtain ⟨rfl, hsz, hP, hY, hD0, hZ0⟩ := hv
  subst hsz
  have hD := hD0.self (sz := s.heap.size)
  generalize hAe : va_A (wRR G ad o (k, s0, s1, mp, md)) s.heap.size = A at hD hZ0 ⊢
  have hZ : Zs A s s.heap := hZ0
  have hA : ∀ q : Nat, s.heap.size ≤ q → A q := fun q h => by rw [← hAe]; exact Or.inr h
  have hS : va_S A s.heap s.heap [] := va_S.rf
  have hx := B.exec
  have hb := B.bytes
  have hr := B.returns
  have hts := atoms_spec (ws := wsX6_priorityItem) B.pre
  have hown : s.vm.findClass RX6 = some m.cls := findClass_of_methodNamed B.named
  have hlk := B.notSynchronized
  have CF : CallFix p m c cX6_priorityItem 4 s _ wsX6_priorityItem RX6 := ⟨hx, hb, hml, hown, hts⟩
  have hl := lv_entry ([.ref (ad o), .int st, .int sl]) (n := 4) (Nat.le_of_ble_eq_true rfl)
  rw [lg_entry_eq]
  generalize (lg_sl ([.ref (ad o), .int st, .int sl]) ++ List.replicate (4 - (lg_sl ([.ref (ad o), .int st, .int sl])).length) Slot.unset).toArray = ls at hl ⊢
  have hl : lv_has ls 4 [(0, .ref (ad o)), (1, .int st), (2, .int sl)] := hl
  refine lv_iload_n hx hb dX6_priorityItem_0 rfl (lv_at hl 1 rfl) ?_
  refine lv_iconst (v := 0) hx hb dX6_priorityItem_1 (by decide) ?_
  refine lv_iconst (v := 2) hx hb dX6_priorityItem_2 (by decide) ?_
  by_cases q3_1 : okA st 0 2
  · refine rvS (w0 := []) (As := [.int st, .int 0, .int 2]) (rest := []) CF (k_X6_checkArgument l G st 0 2 q3_1) (va_cwS 3 hts gX6_priorityItem_X6_checkArgument rfl rfl rfl (by decide +kernel) ⟨Nat.le_of_ble_eq_true rfl, Nat.le_of_ble_eq_true rfl⟩) va_P_nil hY rfl hl.1 rfl (lv_room (Nat.le_of_ble_eq_true rfl)) dX6_priorityItem_3 ⟨Nat.zero_le _, Nat.zero_le _⟩ ?_
    exact absurd q3_1 hk
  · refine noS0 (As := [.int st, .int 0, .int 2]) (rest := []) CF (kn_X6_checkArgument l hl0 G st 0 2 q3_1) (va_cwS 3 hts gX6_priorityItem_X6_checkArgument rfl rfl rfl (by decide +kernel) ⟨Nat.le_of_ble_eq_true rfl, Nat.le_of_ble_eq_true rfl⟩) hP hD hS hA hY hZ rfl hl.1 rfl (lv_room (Nat.le_of_ble_eq_true rfl)) dX6_priorityItem_3 ⟨Nat.le_of_ble_eq_true rfl, Nat.le_of_ble_eq_true rfl⟩ (fun ce q9 H locs hP hD hS hce hcv hcl hgr => ?_)
    exact no_out ht hlk hce hcv hcl hgr hS hP (by first | with_reducible rfl | (simp only [rrMP, rrPri, rrPriM, sld_eq, q3_1, ↓reduceIte]; done))

set_option maxHeartbeats 4000000 in
set_option maxRecDepth 100000 in
theorem kn2_X6_priorityItem (l : Launch) (hl0 : l.stackTraces = false) (G : GT) (ad : Nat → Nat) (o : Nat) (sg : RRT) (st sl : Int32) (h0 : okA st 0 2) (hs : ¬ okP sl (priSampled (rrPri sg st))) : No l yX6_priorityItem wsX6_priorityItem { frames := 7, cells := 1, slots := 6, locals := 136 } G (wRR G ad o sg) (wRR G ad o (rrMP sg st)) [.ref (ad o), .int st, .int sl] "java/lang/IndexOutOfBoundsException" := by
  intro sz
  obtain ⟨k, s0, s1, mp, md⟩ := sg
  refine vx_ofW (cc := cX6_priorityItem) (maxL := 4) (ret := (some .int)) (by decide) rfl ?_
  intro p e s m args below meth c s₁ B hml ht hv
  obtain ⟨rfl, hsz, hP, hY, hD0, hZ0⟩ := hv
  subst hsz
  have hD := hD0.self (sz := s.heap.size)
  generalize hAe : va_A (wRR G ad o (k, s0, s1, mp, md)) s.heap.size = A at hD hZ0 ⊢
  have hZ : Zs A s s.heap := hZ0
  have hA : ∀ q : Nat, s.heap.size ≤ q → A q := fun q h => by rw [← hAe]; exact Or.inr h
  have hS : va_S A s.heap s.heap [] := va_S.rf
  have hx := B.exec
  have hb := B.bytes
  have hr := B.returns
  have hts := atoms_spec (ws := wsX6_priorityItem) B.pre
  have hown : s.vm.findClass RX6 = some m.cls := findClass_of_methodNamed B.named
  have hlk := B.notSynchronized
  have CF : CallFix p m c cX6_priorityItem 4 s _ wsX6_priorityItem RX6 := ⟨hx, hb, hml, hown, hts⟩
  have hl := lv_entry ([.ref (ad o), .int st, .int sl]) (n := 4) (Nat.le_of_ble_eq_true rfl)
  rw [lg_entry_eq]
  generalize (lg_sl ([.ref (ad o), .int st, .int sl]) ++ List.replicate (4 - (lg_sl ([.ref (ad o), .int st, .int sl])).length) Slot.unset).toArray = ls at hl ⊢
  have hl : lv_has ls 4 [(0, .ref (ad o)), (1, .int st), (2, .int sl)] := hl
  refine lv_iload_n hx hb dX6_priorityItem_0 rfl (lv_at hl 1 rfl) ?_
  refine lv_iconst (v := 0) hx hb dX6_priorityItem_1 (by decide) ?_
  refine lv_iconst (v := 2) hx hb dX6_priorityItem_2 (by decide) ?_
  refine rvS (w0 := []) (As := [.int st, .int 0, .int 2]) (rest := []) CF (k_X6_checkArgument l G st 0 2 h0) (va_cwS 3 hts gX6_priorityItem_X6_checkArgument rfl rfl rfl (by decide +kernel) ⟨Nat.le_of_ble_eq_true rfl, Nat.le_of_ble_eq_true rfl⟩) va_P_nil hY rfl hl.1 rfl (lv_room (Nat.le_of_ble_eq_true rfl)) dX6_priorityItem_3 ⟨Nat.zero_le _, Nat.zero_le _⟩ ?_
  refine lv_aload_n hx hb dX6_priorityItem_6 rfl (lv_at hl 0 rfl) ?_
  refine lv_iload_n hx hb dX6_priorityItem_7 rfl (lv_at hl 1 rfl) ?_
  by_cases q8_1 : st = 2
  · refine wrV [] (wRR G ad o (k, s0, s1, mp, md)) [] (wRR G ad o (rrMP (k, s0, s1, mp, md) st)) (As := [.int st]) (rest := []) CF (k2_X6_prioritiesOf l G ad o (k, s0, s1, mp, md) st q8_1) (cwV 1 hts gX6_priorityItem_X6_prioritiesOf rfl rfl rfl (by decide +kernel) ⟨Nat.le_of_ble_eq_true rfl, Nat.le_of_ble_eq_true rfl⟩) hP hD hS hA hY rfl rfl (fst_RR _ _ _ _ _) rfl hl.1 rfl (lv_room (Nat.le_of_ble_eq_true rfl)) dX6_priorityItem_8 ⟨Nat.zero_le _, Nat.zero_le _⟩ (fun H locs hP hD hS => ?_)
    have hP : va_P G.1 vwCl (wRR G ad o (rrMP (k, s0, s1, mp, md) st)) H := hP
    have hD : va_D A (wRR G ad o (rrMP (k, s0, s1, mp, md) st)) := hD
    refine lv_astore_n (lv' := [(3, .ref (ad (o+63))), (0, .ref (ad o)), (1, .int st), (2, .int sl)]) hx hb dX6_priorityItem_11 rfl hl (by decide) rfl (fun ls hl => ?_)
    refine lv_iload_n hx hb dX6_priorityItem_12 rfl (lv_at hl 3 rfl) ?_
    refine lv_aload_n hx hb dX6_priorityItem_13 rfl (lv_at hl 0 rfl) ?_
    have hQ2 := va_P.subm (u := wPri G ad (o+63) ((rrMP (k, s0, s1, mp, md) st).2.2.2.1)) (fun q h => by simp only [wRR, List.mem_cons, List.mem_append, h, true_or, or_true]) hP
    refine rdV (w0 := (wPri G ad (o+63) ((rrMP (k, s0, s1, mp, md) st).2.2.2.1))) (As := []) (rest := [.int sl]) CF (k_X3_sampled l G ad (o+63) ((rrMP (k, s0, s1, mp, md) st).2.2.2.1)) (cwV 0 hts gX6_priorityItem_X3_sampled rfl rfl rfl (by decide +kernel) ⟨Nat.le_of_ble_eq_true rfl, Nat.le_of_ble_eq_true rfl⟩) hQ2 hY rfl rfl rfl hl.1 rfl (lv_room (Nat.le_of_ble_eq_true rfl)) dX6_priorityItem_14 ⟨Nat.zero_le _, Nat.zero_le _⟩ ?_
    refine noS0 (As := [.int sl, .int (priSampled ((rrMP (k, s0, s1, mp, md) st).2.2.2.1))]) (rest := []) CF (kn_X6_checkPlace l hl0 G sl (priSampled ((rrMP (k, s0, s1, mp, md) st).2.2.2.1)) (by simpa only [rrMP, rrPri, rrPriM, eq_true q8_1, ↓reduceIte] using hs)) (va_cwS 2 hts gX6_priorityItem_X6_checkPlace rfl rfl rfl (by decide +kernel) ⟨Nat.le_of_ble_eq_true rfl, Nat.le_of_ble_eq_true rfl⟩) hP hD hS hA hY hZ rfl hl.1 rfl (lv_room (Nat.le_of_ble_eq_true rfl)) dX6_priorityItem_17 ⟨Nat.le_of_ble_eq_true rfl, Nat.le_of_ble_eq_true rfl⟩ (fun ce q9 H locs hP hD hS hce hcv hcl hgr => ?_)
    exact no_out ht hlk hce hcv hcl hgr hS hP (by first | with_reducible rfl | (simp only [rrMP, rrPri, rrPriM, sld_eq, eq_true q8_1, ↓reduceIte]; done))
  · by_cases q8_3 : st = 0
    · refine rdV (w0 := (wRR G ad o (k, s0, s1, mp, md))) (As := [.int st]) (rest := []) CF (k0_X6_prioritiesOf l G ad o (k, s0, s1, mp, md) st q8_1 q8_3) (cwV 1 hts gX6_priorityItem_X6_prioritiesOf rfl rfl rfl (by decide +kernel) ⟨Nat.le_of_ble_eq_true rfl, Nat.le_of_ble_eq_true rfl⟩) hP hY rfl rfl rfl hl.1 rfl (lv_room (Nat.le_of_ble_eq_true rfl)) dX6_priorityItem_8 ⟨Nat.zero_le _, Nat.zero_le _⟩ ?_
      refine lv_astore_n (lv' := [(3, .ref (ad (o+1+20))), (0, .ref (ad o)), (1, .int st), (2, .int sl)]) hx hb dX6_priorityItem_11 rfl hl (by decide) rfl (fun ls hl => ?_)
      refine lv_iload_n hx hb dX6_priorityItem_12 rfl (lv_at hl 3 rfl) ?_
      refine lv_aload_n hx hb dX6_priorityItem_13 rfl (lv_at hl 0 rfl) ?_
      have hQ4 := va_P.subm (u := wPri G ad (o+1+20) s0.2.2.2.2.2.2.2.2.1) (fun q h => by simp only [wStr, wRR, List.mem_cons, List.mem_append, h, true_or, or_true]) hP
      refine rdV (w0 := (wPri G ad (o+1+20) s0.2.2.2.2.2.2.2.2.1)) (As := []) (rest := [.int sl]) CF (k_X3_sampled l G ad (o+1+20) s0.2.2.2.2.2.2.2.2.1) (cwV 0 hts gX6_priorityItem_X3_sampled rfl rfl rfl (by decide +kernel) ⟨Nat.le_of_ble_eq_true rfl, Nat.le_of_ble_eq_true rfl⟩) hQ4 hY rfl rfl rfl hl.1 rfl (lv_room (Nat.le_of_ble_eq_true rfl)) dX6_priorityItem_14 ⟨Nat.zero_le _, Nat.zero_le _⟩ ?_
      refine noS0 (As := [.int sl, .int (priSampled s0.2.2.2.2.2.2.2.2.1)]) (rest := []) CF (kn_X6_checkPlace l hl0 G sl (priSampled s0.2.2.2.2.2.2.2.2.1) (by simpa only [rrMP, rrPri, rrPriM, q8_1, eq_true q8_3, ↓reduceIte] using hs)) (va_cwS 2 hts gX6_priorityItem_X6_checkPlace rfl rfl rfl (by decide +kernel) ⟨Nat.le_of_ble_eq_true rfl, Nat.le_of_ble_eq_true rfl⟩) hP hD hS hA hY hZ rfl hl.1 rfl (lv_room (Nat.le_of_ble_eq_true rfl)) dX6_priorityItem_17 ⟨Nat.le_of_ble_eq_true rfl, Nat.le_of_ble_eq_true rfl⟩ (fun ce q9 H locs hP hD hS hce hcv hcl hgr => ?_)
      exact no_out ht hlk hce hcv hcl hgr hS hP (by first | with_reducible rfl | (simp only [rrMP, rrPri, rrPriM, sld_eq, q8_1, eq_true q8_3, ↓reduceIte]; done))
    · refine rdV (w0 := (wRR G ad o (k, s0, s1, mp, md))) (As := [.int st]) (rest := []) CF (k1_X6_prioritiesOf l G ad o (k, s0, s1, mp, md) st q8_1 q8_3) (cwV 1 hts gX6_priorityItem_X6_prioritiesOf rfl rfl rfl (by decide +kernel) ⟨Nat.le_of_ble_eq_true rfl, Nat.le_of_ble_eq_true rfl⟩) hP hY rfl rfl rfl hl.1 rfl (lv_room (Nat.le_of_ble_eq_true rfl)) dX6_priorityItem_8 ⟨Nat.zero_le _, Nat.zero_le _⟩ ?_
      refine lv_astore_n (lv' := [(3, .ref (ad (o+32+20))), (0, .ref (ad o)), (1, .int st), (2, .int sl)]) hx hb dX6_priorityItem_11 rfl hl (by decide) rfl (fun ls hl => ?_)
      refine lv_iload_n hx hb dX6_priorityItem_12 rfl (lv_at hl 3 rfl) ?_
      refine lv_aload_n hx hb dX6_priorityItem_13 rfl (lv_at hl 0 rfl) ?_
      have hQ5 := va_P.subm (u := wPri G ad (o+32+20) s1.2.2.2.2.2.2.2.2.1) (fun q h => by simp only [wStr, wRR, List.mem_cons, List.mem_append, h, true_or, or_true]) hP
      refine rdV (w0 := (wPri G ad (o+32+20) s1.2.2.2.2.2.2.2.2.1)) (As := []) (rest := [.int sl]) CF (k_X3_sampled l G ad (o+32+20) s1.2.2.2.2.2.2.2.2.1) (cwV 0 hts gX6_priorityItem_X3_sampled rfl rfl rfl (by decide +kernel) ⟨Nat.le_of_ble_eq_true rfl, Nat.le_of_ble_eq_true rfl⟩) hQ5 hY rfl rfl rfl hl.1 rfl (lv_room (Nat.le_of_ble_eq_true rfl)) dX6_priorityItem_14 ⟨Nat.zero_le _, Nat.zero_le _⟩ ?_
      refine noS0 (As := [.int sl, .int (priSampled s1.2.2.2.2.2.2.2.2.1)]) (rest := []) CF (kn_X6_checkPlace l hl0 G sl (priSampled s1.2.2.2.2.2.2.2.2.1) (by simpa only [rrMP, rrPri, rrPriM, q8_1, q8_3, ↓reduceIte] using hs)) (va_cwS 2 hts gX6_priorityItem_X6_checkPlace rfl rfl rfl (by decide +kernel) ⟨Nat.le_of_ble_eq_true rfl, Nat.le_of_ble_eq_true rfl⟩) hP hD hS hA hY hZ rfl hl.1 rfl (lv_room (Nat.le_of_ble_eq_true rfl)) dX6_priorityItem_17 ⟨Nat.le_of_ble_eq_true rfl, Nat.le_of_ble_eq_true rfl⟩ (fun ce q9 H locs hP hD hS hce hcv hcl hgr => ?_)
      exact no_out ht hlk hce hcv hcl hgr hS hP (by first | with_reducible rfl | (simp only [rrMP, rrPri, rrPriM, sld_eq, q8_1, q8_3, ↓reduceIte]; done))

set_option maxHeartbeats 4000000 in
set_option maxRecDepth 100000 in
theorem k_X6_estimatedWeight (l : Launch) (G : GT) (ad : Nat → Nat) (o : Nat) (sg : RRT) (st sl : Int32) (h0 : okA st 0 2) (hs : okP sl (priSampled (rrPri sg st))) : Wr l yX6_estimatedWeight wsX6_estimatedWeight { frames := 7, cells := 0, slots := 0, locals := 136 } G (wRR G ad o sg) (wRR G ad o (rrMP sg st)) [.ref (ad o), .int st, .int sl] (some (.long (priEst (rrPri sg st) sl))) := by
  intro sz
  obtain ⟨k, s0, s1, mp, md⟩ := sg
  refine Met.ofW (cc := cX6_estimatedWeight) (maxL := 4) (ret := (some .long)) (by decide) rfl ?_
  intro p e s m args below meth c s₁ B hml hv
  obtain ⟨rfl, hsz, hP, hY, hD0⟩ := hv
  subst hsz
  have hD := hD0.self (sz := s.heap.size)
  generalize hAe : va_A (wRR G ad o (k, s0, s1, mp, md)) s.heap.size = A at hD ⊢
  have hA : ∀ q : Nat, s.heap.size ≤ q → A q := fun q h => by rw [← hAe]; exact Or.inr h
  have hS : va_S A s.heap s.heap [] := va_S.rf
  have hx := B.exec
  have hb := B.bytes
  have hr := B.returns
  have hts := atoms_spec (ws := wsX6_estimatedWeight) B.pre
  have hown : s.vm.findClass RX6 = some m.cls := findClass_of_methodNamed B.named
  have hlk := B.notSynchronized
  have CF : CallFix p m c cX6_estimatedWeight 4 s _ wsX6_estimatedWeight RX6 := ⟨hx, hb, hml, hown, hts⟩
  have hl := lv_entry ([.ref (ad o), .int st, .int sl]) (n := 4) (Nat.le_of_ble_eq_true rfl)
  rw [lg_entry_eq]
  generalize (lg_sl ([.ref (ad o), .int st, .int sl]) ++ List.replicate (4 - (lg_sl ([.ref (ad o), .int st, .int sl])).length) Slot.unset).toArray = ls at hl ⊢
  have hl : lv_has ls 4 [(0, .ref (ad o)), (1, .int st), (2, .int sl)] := hl
  refine lv_iload_n hx hb dX6_estimatedWeight_0 rfl (lv_at hl 1 rfl) ?_
  refine lv_iconst (v := 0) hx hb dX6_estimatedWeight_1 (by decide) ?_
  refine lv_iconst (v := 2) hx hb dX6_estimatedWeight_2 (by decide) ?_
  refine rvS (w0 := []) (As := [.int st, .int 0, .int 2]) (rest := []) CF (k_X6_checkArgument l G st 0 2 h0) (va_cwS 3 hts gX6_estimatedWeight_X6_checkArgument rfl rfl rfl (by decide +kernel) ⟨Nat.le_of_ble_eq_true rfl, Nat.le_of_ble_eq_true rfl⟩) va_P_nil hY rfl hl.1 rfl (lv_room (Nat.le_of_ble_eq_true rfl)) dX6_estimatedWeight_3 ⟨Nat.zero_le _, Nat.zero_le _⟩ ?_
  refine lv_aload_n hx hb dX6_estimatedWeight_6 rfl (lv_at hl 0 rfl) ?_
  refine lv_iload_n hx hb dX6_estimatedWeight_7 rfl (lv_at hl 1 rfl) ?_
  by_cases q8_1 : st = 2
  · refine wrV [] (wRR G ad o (k, s0, s1, mp, md)) [] (wRR G ad o (rrMP (k, s0, s1, mp, md) st)) (As := [.int st]) (rest := []) CF (k2_X6_prioritiesOf l G ad o (k, s0, s1, mp, md) st q8_1) (cwV 1 hts gX6_estimatedWeight_X6_prioritiesOf rfl rfl rfl (by decide +kernel) ⟨Nat.le_of_ble_eq_true rfl, Nat.le_of_ble_eq_true rfl⟩) hP hD hS hA hY rfl rfl (fst_RR _ _ _ _ _) rfl hl.1 rfl (lv_room (Nat.le_of_ble_eq_true rfl)) dX6_estimatedWeight_8 ⟨Nat.zero_le _, Nat.zero_le _⟩ (fun H locs hP hD hS => ?_)
    have hP : va_P G.1 vwCl (wRR G ad o (rrMP (k, s0, s1, mp, md) st)) H := hP
    have hD : va_D A (wRR G ad o (rrMP (k, s0, s1, mp, md) st)) := hD
    refine lv_astore_n (lv' := [(3, .ref (ad (o+63))), (0, .ref (ad o)), (1, .int st), (2, .int sl)]) hx hb dX6_estimatedWeight_11 rfl hl (by decide) rfl (fun ls hl => ?_)
    refine lv_iload_n hx hb dX6_estimatedWeight_12 rfl (lv_at hl 3 rfl) ?_
    refine lv_aload_n hx hb dX6_estimatedWeight_13 rfl (lv_at hl 0 rfl) ?_
    have hQ2 := va_P.subm (u := wPri G ad (o+63) ((rrMP (k, s0, s1, mp, md) st).2.2.2.1)) (fun q h => by simp only [wRR, List.mem_cons, List.mem_append, h, true_or, or_true]) hP
    refine rdV (w0 := (wPri G ad (o+63) ((rrMP (k, s0, s1, mp, md) st).2.2.2.1))) (As := []) (rest := [.int sl]) CF (k_X3_sampled l G ad (o+63) ((rrMP (k, s0, s1, mp, md) st).2.2.2.1)) (cwV 0 hts gX6_estimatedWeight_X3_sampled rfl rfl rfl (by decide +kernel) ⟨Nat.le_of_ble_eq_true rfl, Nat.le_of_ble_eq_true rfl⟩) hQ2 hY rfl rfl rfl hl.1 rfl (lv_room (Nat.le_of_ble_eq_true rfl)) dX6_estimatedWeight_14 ⟨Nat.zero_le _, Nat.zero_le _⟩ ?_
    refine rvS (w0 := []) (As := [.int sl, .int (priSampled ((rrMP (k, s0, s1, mp, md) st).2.2.2.1))]) (rest := []) CF (k_X6_checkPlace l G sl (priSampled ((rrMP (k, s0, s1, mp, md) st).2.2.2.1)) (by simpa only [rrMP, rrPri, rrPriM, eq_true q8_1, ↓reduceIte] using hs)) (va_cwS 2 hts gX6_estimatedWeight_X6_checkPlace rfl rfl rfl (by decide +kernel) ⟨Nat.le_of_ble_eq_true rfl, Nat.le_of_ble_eq_true rfl⟩) va_P_nil hY rfl hl.1 rfl (lv_room (Nat.le_of_ble_eq_true rfl)) dX6_estimatedWeight_17 ⟨Nat.zero_le _, Nat.zero_le _⟩ ?_
    refine lv_aload_n hx hb dX6_estimatedWeight_20 rfl (lv_at hl 0 rfl) ?_
    refine lv_iload_n hx hb dX6_estimatedWeight_21 rfl (lv_at hl 3 rfl) ?_
    have hQ3 := va_P.subm (u := wPri G ad (o+63) ((rrMP (k, s0, s1, mp, md) st).2.2.2.1)) (fun q h => by simp only [wRR, List.mem_cons, List.mem_append, h, true_or, or_true]) hP
    refine rdV (w0 := (wPri G ad (o+63) ((rrMP (k, s0, s1, mp, md) st).2.2.2.1))) (As := [.int sl]) (rest := []) CF (k_X3_estimateAt l G ad (o+63) ((rrMP (k, s0, s1, mp, md) st).2.2.2.1) sl) (cwV 1 hts gX6_estimatedWeight_X3_estimateAt rfl rfl rfl (by decide +kernel) ⟨Nat.le_of_ble_eq_true rfl, Nat.le_of_ble_eq_true rfl⟩) hQ3 hY rfl rfl rfl hl.1 rfl (lv_room (Nat.le_of_ble_eq_true rfl)) dX6_estimatedWeight_22 ⟨Nat.zero_le _, Nat.zero_le _⟩ ?_
    exact wr_lret hx hb hr hlk hS hP (by first | with_reducible rfl | (simp only [rrMP, rrPri, rrPriM, sld_eq, eq_true q8_1, ↓reduceIte]; done)) (by first | with_reducible rfl | (simp only [rrMP, rrPri, rrPriM, sld_eq, eq_true q8_1, ↓reduceIte]; done)) dX6_estimatedWeight_25
  · by_cases q8_4 : st = 0
    · refine rdV (w0 := (wRR G ad o (k, s0, s1, mp, md))) (As := [.int st]) (rest := []) CF (k0_X6_prioritiesOf l G ad o (k, s0, s1, mp, md) st q8_1 q8_4) (cwV 1 hts gX6_estimatedWeight_X6_prioritiesOf rfl rfl rfl (by decide +kernel) ⟨Nat.le_of_ble_eq_true rfl, Nat.le_of_ble_eq_true rfl⟩) hP hY rfl rfl rfl hl.1 rfl (lv_room (Nat.le_of_ble_eq_true rfl)) dX6_estimatedWeight_8 ⟨Nat.zero_le _, Nat.zero_le _⟩ ?_
      refine lv_astore_n (lv' := [(3, .ref (ad (o+1+20))), (0, .ref (ad o)), (1, .int st), (2, .int sl)]) hx hb dX6_estimatedWeight_11 rfl hl (by decide) rfl (fun ls hl => ?_)
      refine lv_iload_n hx hb dX6_estimatedWeight_12 rfl (lv_at hl 3 rfl) ?_
      refine lv_aload_n hx hb dX6_estimatedWeight_13 rfl (lv_at hl 0 rfl) ?_
      have hQ5 := va_P.subm (u := wPri G ad (o+1+20) s0.2.2.2.2.2.2.2.2.1) (fun q h => by simp only [wStr, wRR, List.mem_cons, List.mem_append, h, true_or, or_true]) hP
      refine rdV (w0 := (wPri G ad (o+1+20) s0.2.2.2.2.2.2.2.2.1)) (As := []) (rest := [.int sl]) CF (k_X3_sampled l G ad (o+1+20) s0.2.2.2.2.2.2.2.2.1) (cwV 0 hts gX6_estimatedWeight_X3_sampled rfl rfl rfl (by decide +kernel) ⟨Nat.le_of_ble_eq_true rfl, Nat.le_of_ble_eq_true rfl⟩) hQ5 hY rfl rfl rfl hl.1 rfl (lv_room (Nat.le_of_ble_eq_true rfl)) dX6_estimatedWeight_14 ⟨Nat.zero_le _, Nat.zero_le _⟩ ?_
      refine rvS (w0 := []) (As := [.int sl, .int (priSampled s0.2.2.2.2.2.2.2.2.1)]) (rest := []) CF (k_X6_checkPlace l G sl (priSampled s0.2.2.2.2.2.2.2.2.1) (by simpa only [rrMP, rrPri, rrPriM, q8_1, eq_true q8_4, ↓reduceIte] using hs)) (va_cwS 2 hts gX6_estimatedWeight_X6_checkPlace rfl rfl rfl (by decide +kernel) ⟨Nat.le_of_ble_eq_true rfl, Nat.le_of_ble_eq_true rfl⟩) va_P_nil hY rfl hl.1 rfl (lv_room (Nat.le_of_ble_eq_true rfl)) dX6_estimatedWeight_17 ⟨Nat.zero_le _, Nat.zero_le _⟩ ?_
      refine lv_aload_n hx hb dX6_estimatedWeight_20 rfl (lv_at hl 0 rfl) ?_
      refine lv_iload_n hx hb dX6_estimatedWeight_21 rfl (lv_at hl 3 rfl) ?_
      have hQ6 := va_P.subm (u := wPri G ad (o+1+20) s0.2.2.2.2.2.2.2.2.1) (fun q h => by simp only [wStr, wRR, List.mem_cons, List.mem_append, h, true_or, or_true]) hP
      refine rdV (w0 := (wPri G ad (o+1+20) s0.2.2.2.2.2.2.2.2.1)) (As := [.int sl]) (rest := []) CF (k_X3_estimateAt l G ad (o+1+20) s0.2.2.2.2.2.2.2.2.1 sl) (cwV 1 hts gX6_estimatedWeight_X3_estimateAt rfl rfl rfl (by decide +kernel) ⟨Nat.le_of_ble_eq_true rfl, Nat.le_of_ble_eq_true rfl⟩) hQ6 hY rfl rfl rfl hl.1 rfl (lv_room (Nat.le_of_ble_eq_true rfl)) dX6_estimatedWeight_22 ⟨Nat.zero_le _, Nat.zero_le _⟩ ?_
      exact wr_lret hx hb hr hlk hS hP (by first | with_reducible rfl | (simp only [rrMP, rrPri, rrPriM, sld_eq, q8_1, eq_true q8_4, ↓reduceIte]; done)) (by first | with_reducible rfl | (simp only [rrMP, rrPri, rrPriM, sld_eq, q8_1, eq_true q8_4, ↓reduceIte]; done)) dX6_estimatedWeight_25
    · refine rdV (w0 := (wRR G ad o (k, s0, s1, mp, md))) (As := [.int st]) (rest := []) CF (k1_X6_prioritiesOf l G ad o (k, s0, s1, mp, md) st q8_1 q8_4) (cwV 1 hts gX6_estimatedWeight_X6_prioritiesOf rfl rfl rfl (by decide +kernel) ⟨Nat.le_of_ble_eq_true rfl, Nat.le_of_ble_eq_true rfl⟩) hP hY rfl rfl rfl hl.1 rfl (lv_room (Nat.le_of_ble_eq_true rfl)) dX6_estimatedWeight_8 ⟨Nat.zero_le _, Nat.zero_le _⟩ ?_
      refine lv_astore_n (lv' := [(3, .ref (ad (o+32+20))), (0, .ref (ad o)), (1, .int st), (2, .int sl)]) hx hb dX6_estimatedWeight_11 rfl hl (by decide) rfl (fun ls hl => ?_)
      refine lv_iload_n hx hb dX6_estimatedWeight_12 rfl (lv_at hl 3 rfl) ?_
      refine lv_aload_n hx hb dX6_estimatedWeight_13 rfl (lv_at hl 0 rfl) ?_
      have hQ7 := va_P.subm (u := wPri G ad (o+32+20) s1.2.2.2.2.2.2.2.2.1) (fun q h => by simp only [wStr, wRR, List.mem_cons, List.mem_append, h, true_or, or_true]) hP
      refine rdV (w0 := (wPri G ad (o+32+20) s1.2.2.2.2.2.2.2.2.1)) (As := []) (rest := [.int sl]) CF (k_X3_sampled l G ad (o+32+20) s1.2.2.2.2.2.2.2.2.1) (cwV 0 hts gX6_estimatedWeight_X3_sampled rfl rfl rfl (by decide +kernel) ⟨Nat.le_of_ble_eq_true rfl, Nat.le_of_ble_eq_true rfl⟩) hQ7 hY rfl rfl rfl hl.1 rfl (lv_room (Nat.le_of_ble_eq_true rfl)) dX6_estimatedWeight_14 ⟨Nat.zero_le _, Nat.zero_le _⟩ ?_
      refine rvS (w0 := []) (As := [.int sl, .int (priSampled s1.2.2.2.2.2.2.2.2.1)]) (rest := []) CF (k_X6_checkPlace l G sl (priSampled s1.2.2.2.2.2.2.2.2.1) (by simpa only [rrMP, rrPri, rrPriM, q8_1, q8_4, ↓reduceIte] using hs)) (va_cwS 2 hts gX6_estimatedWeight_X6_checkPlace rfl rfl rfl (by decide +kernel) ⟨Nat.le_of_ble_eq_true rfl, Nat.le_of_ble_eq_true rfl⟩) va_P_nil hY rfl hl.1 rfl (lv_room (Nat.le_of_ble_eq_true rfl)) dX6_estimatedWeight_17 ⟨Nat.zero_le _, Nat.zero_le _⟩ ?_
      refine lv_aload_n hx hb dX6_estimatedWeight_20 rfl (lv_at hl 0 rfl) ?_
      refine lv_iload_n hx hb dX6_estimatedWeight_21 rfl (lv_at hl 3 rfl) ?_
      have hQ8 := va_P.subm (u := wPri G ad (o+32+20) s1.2.2.2.2.2.2.2.2.1) (fun q h => by simp only [wStr, wRR, List.mem_cons, List.mem_append, h, true_or, or_true]) hP
      refine rdV (w0 := (wPri G ad (o+32+20) s1.2.2.2.2.2.2.2.2.1)) (As := [.int sl]) (rest := []) CF (k_X3_estimateAt l G ad (o+32+20) s1.2.2.2.2.2.2.2.2.1 sl) (cwV 1 hts gX6_estimatedWeight_X3_estimateAt rfl rfl rfl (by decide +kernel) ⟨Nat.le_of_ble_eq_true rfl, Nat.le_of_ble_eq_true rfl⟩) hQ8 hY rfl rfl rfl hl.1 rfl (lv_room (Nat.le_of_ble_eq_true rfl)) dX6_estimatedWeight_22 ⟨Nat.zero_le _, Nat.zero_le _⟩ ?_
      exact wr_lret hx hb hr hlk hS hP (by first | with_reducible rfl | (simp only [rrMP, rrPri, rrPriM, sld_eq, q8_1, q8_4, ↓reduceIte]; done)) (by first | with_reducible rfl | (simp only [rrMP, rrPri, rrPriM, sld_eq, q8_1, q8_4, ↓reduceIte]; done)) dX6_estimatedWeight_25

set_option maxHeartbeats 4000000 in
set_option maxRecDepth 100000 in
theorem kn_X6_estimatedWeight (l : Launch) (hl0 : l.stackTraces = false) (G : GT) (ad : Nat → Nat) (o : Nat) (sg : RRT) (st sl : Int32) (hk : ¬ (okA st 0 2)) : No l yX6_estimatedWeight wsX6_estimatedWeight { frames := 7, cells := 1, slots := 6, locals := 136 } G (wRR G ad o sg) (wRR G ad o sg) [.ref (ad o), .int st, .int sl] "java/lang/IllegalArgumentException" := by
  intro sz
  obtain ⟨k, s0, s1, mp, md⟩ := sg
  refine vx_ofW (cc := cX6_estimatedWeight) (maxL := 4) (ret := (some .long)) (by decide) rfl ?_
  intro p e s m args below meth c s₁ B hml ht hv
  obtain ⟨rfl, hsz, hP, hY, hD0, hZ0⟩ := hv
  subst hsz
  have hD := hD0.self (sz := s.heap.size)
  generalize hAe : va_A (wRR G ad o (k, s0, s1, mp, md)) s.heap.size = A at hD hZ0 ⊢
  have hZ : Zs A s s.heap := hZ0
  have hA : ∀ q : Nat, s.heap.size ≤ q → A q := fun q h => by rw [← hAe]; exact Or.inr h
  have hS : va_S A s.heap s.heap [] := va_S.rf
  have hx := B.exec
  have hb := B.bytes
  have hr := B.returns
  have hts := atoms_spec (ws := wsX6_estimatedWeight) B.pre
  have hown : s.vm.findClass RX6 = some m.cls := findClass_of_methodNamed B.named
  have hlk := B.notSynchronized
  have CF : CallFix p m c cX6_estimatedWeight 4 s _ wsX6_estimatedWeight RX6 := ⟨hx, hb, hml, hown, hts⟩
  have hl := lv_entry ([.ref (ad o), .int st, .int sl]) (n := 4) (Nat.le_of_ble_eq_true rfl)
  rw [lg_entry_eq]
  generalize (lg_sl ([.ref (ad o), .int st, .int sl]) ++ List.replicate (4 - (lg_sl ([.ref (ad o), .int st, .int sl])).length) Slot.unset).toArray = ls at hl ⊢
  have hl : lv_has ls 4 [(0, .ref (ad o)), (1, .int st), (2, .int sl)] := hl
  refine lv_iload_n hx hb dX6_estimatedWeight_0 rfl (lv_at hl 1 rfl) ?_
  refine lv_iconst (v := 0) hx hb dX6_estimatedWeight_1 (by decide) ?_
  refine lv_iconst (v := 2) hx hb dX6_estimatedWeight_2 (by decide) ?_
  by_cases q3_1 : okA st 0 2
  · refine rvS (w0 := []) (As := [.int st, .int 0, .int 2]) (rest := []) CF (k_X6_checkArgument l G st 0 2 q3_1) (va_cwS 3 hts gX6_estimatedWeight_X6_checkArgument rfl rfl rfl (by decide +kernel) ⟨Nat.le_of_ble_eq_true rfl, Nat.le_of_ble_eq_true rfl⟩) va_P_nil hY rfl hl.1 rfl (lv_room (Nat.le_of_ble_eq_true rfl)) dX6_estimatedWeight_3 ⟨Nat.zero_le _, Nat.zero_le _⟩ ?_
    exact absurd q3_1 hk
  · refine noS0 (As := [.int st, .int 0, .int 2]) (rest := []) CF (kn_X6_checkArgument l hl0 G st 0 2 q3_1) (va_cwS 3 hts gX6_estimatedWeight_X6_checkArgument rfl rfl rfl (by decide +kernel) ⟨Nat.le_of_ble_eq_true rfl, Nat.le_of_ble_eq_true rfl⟩) hP hD hS hA hY hZ rfl hl.1 rfl (lv_room (Nat.le_of_ble_eq_true rfl)) dX6_estimatedWeight_3 ⟨Nat.le_of_ble_eq_true rfl, Nat.le_of_ble_eq_true rfl⟩ (fun ce q9 H locs hP hD hS hce hcv hcl hgr => ?_)
    exact no_out ht hlk hce hcv hcl hgr hS hP (by first | with_reducible rfl | (simp only [rrMP, rrPri, rrPriM, sld_eq, q3_1, ↓reduceIte]; done))

set_option maxHeartbeats 4000000 in
set_option maxRecDepth 100000 in
theorem kn2_X6_estimatedWeight (l : Launch) (hl0 : l.stackTraces = false) (G : GT) (ad : Nat → Nat) (o : Nat) (sg : RRT) (st sl : Int32) (h0 : okA st 0 2) (hs : ¬ okP sl (priSampled (rrPri sg st))) : No l yX6_estimatedWeight wsX6_estimatedWeight { frames := 7, cells := 1, slots := 6, locals := 136 } G (wRR G ad o sg) (wRR G ad o (rrMP sg st)) [.ref (ad o), .int st, .int sl] "java/lang/IndexOutOfBoundsException" := by
  intro sz
  obtain ⟨k, s0, s1, mp, md⟩ := sg
  refine vx_ofW (cc := cX6_estimatedWeight) (maxL := 4) (ret := (some .long)) (by decide) rfl ?_
  intro p e s m args below meth c s₁ B hml ht hv
  obtain ⟨rfl, hsz, hP, hY, hD0, hZ0⟩ := hv
  subst hsz
  have hD := hD0.self (sz := s.heap.size)
  generalize hAe : va_A (wRR G ad o (k, s0, s1, mp, md)) s.heap.size = A at hD hZ0 ⊢
  have hZ : Zs A s s.heap := hZ0
  have hA : ∀ q : Nat, s.heap.size ≤ q → A q := fun q h => by rw [← hAe]; exact Or.inr h
  have hS : va_S A s.heap s.heap [] := va_S.rf
  have hx := B.exec
  have hb := B.bytes
  have hr := B.returns
  have hts := atoms_spec (ws := wsX6_estimatedWeight) B.pre
  have hown : s.vm.findClass RX6 = some m.cls := findClass_of_methodNamed B.named
  have hlk := B.notSynchronized
  have CF : CallFix p m c cX6_estimatedWeight 4 s _ wsX6_estimatedWeight RX6 := ⟨hx, hb, hml, hown, hts⟩
  have hl := lv_entry ([.ref (ad o), .int st, .int sl]) (n := 4) (Nat.le_of_ble_eq_true rfl)
  rw [lg_entry_eq]
  generalize (lg_sl ([.ref (ad o), .int st, .int sl]) ++ List.replicate (4 - (lg_sl ([.ref (ad o), .int st, .int sl])).length) Slot.unset).toArray = ls at hl ⊢
  have hl : lv_has ls 4 [(0, .ref (ad o)), (1, .int st), (2, .int sl)] := hl
  refine lv_iload_n hx hb dX6_estimatedWeight_0 rfl (lv_at hl 1 rfl) ?_
  refine lv_iconst (v := 0) hx hb dX6_estimatedWeight_1 (by decide) ?_
  refine lv_iconst (v := 2) hx hb dX6_estimatedWeight_2 (by decide) ?_
  refine rvS (w0 := []) (As := [.int st, .int 0, .int 2]) (rest := []) CF (k_X6_checkArgument l G st 0 2 h0) (va_cwS 3 hts gX6_estimatedWeight_X6_checkArgument rfl rfl rfl (by decide +kernel) ⟨Nat.le_of_ble_eq_true rfl, Nat.le_of_ble_eq_true rfl⟩) va_P_nil hY rfl hl.1 rfl (lv_room (Nat.le_of_ble_eq_true rfl)) dX6_estimatedWeight_3 ⟨Nat.zero_le _, Nat.zero_le _⟩ ?_
  refine lv_aload_n hx hb dX6_estimatedWeight_6 rfl (lv_at hl 0 rfl) ?_
  refine lv_iload_n hx hb dX6_estimatedWeight_7 rfl (lv_at hl 1 rfl) ?_
  by_cases q8_1 : st = 2
  · refine wrV [] (wRR G ad o (k, s0, s1, mp, md)) [] (wRR G ad o (rrMP (k, s0, s1, mp, md) st)) (As := [.int st]) (rest := []) CF (k2_X6_prioritiesOf l G ad o (k, s0, s1, mp, md) st q8_1) (cwV 1 hts gX6_estimatedWeight_X6_prioritiesOf rfl rfl rfl (by decide +kernel) ⟨Nat.le_of_ble_eq_true rfl, Nat.le_of_ble_eq_true rfl⟩) hP hD hS hA hY rfl rfl (fst_RR _ _ _ _ _) rfl hl.1 rfl (lv_room (Nat.le_of_ble_eq_true rfl)) dX6_estimatedWeight_8 ⟨Nat.zero_le _, Nat.zero_le _⟩ (fun H locs hP hD hS => ?_)
    have hP : va_P G.1 vwCl (wRR G ad o (rrMP (k, s0, s1, mp, md) st)) H := hP
    have hD : va_D A (wRR G ad o (rrMP (k, s0, s1, mp, md) st)) := hD
    refine lv_astore_n (lv' := [(3, .ref (ad (o+63))), (0, .ref (ad o)), (1, .int st), (2, .int sl)]) hx hb dX6_estimatedWeight_11 rfl hl (by decide) rfl (fun ls hl => ?_)
    refine lv_iload_n hx hb dX6_estimatedWeight_12 rfl (lv_at hl 3 rfl) ?_
    refine lv_aload_n hx hb dX6_estimatedWeight_13 rfl (lv_at hl 0 rfl) ?_
    have hQ2 := va_P.subm (u := wPri G ad (o+63) ((rrMP (k, s0, s1, mp, md) st).2.2.2.1)) (fun q h => by simp only [wRR, List.mem_cons, List.mem_append, h, true_or, or_true]) hP
    refine rdV (w0 := (wPri G ad (o+63) ((rrMP (k, s0, s1, mp, md) st).2.2.2.1))) (As := []) (rest := [.int sl]) CF (k_X3_sampled l G ad (o+63) ((rrMP (k, s0, s1, mp, md) st).2.2.2.1)) (cwV 0 hts gX6_estimatedWeight_X3_sampled rfl rfl rfl (by decide +kernel) ⟨Nat.le_of_ble_eq_true rfl, Nat.le_of_ble_eq_true rfl⟩) hQ2 hY rfl rfl rfl hl.1 rfl (lv_room (Nat.le_of_ble_eq_true rfl)) dX6_estimatedWeight_14 ⟨Nat.zero_le _, Nat.zero_le _⟩ ?_
    refine noS0 (As := [.int sl, .int (priSampled ((rrMP (k, s0, s1, mp, md) st).2.2.2.1))]) (rest := []) CF (kn_X6_checkPlace l hl0 G sl (priSampled ((rrMP (k, s0, s1, mp, md) st).2.2.2.1)) (by simpa only [rrMP, rrPri, rrPriM, eq_true q8_1, ↓reduceIte] using hs)) (va_cwS 2 hts gX6_estimatedWeight_X6_checkPlace rfl rfl rfl (by decide +kernel) ⟨Nat.le_of_ble_eq_true rfl, Nat.le_of_ble_eq_true rfl⟩) hP hD hS hA hY hZ rfl hl.1 rfl (lv_room (Nat.le_of_ble_eq_true rfl)) dX6_estimatedWeight_17 ⟨Nat.le_of_ble_eq_true rfl, Nat.le_of_ble_eq_true rfl⟩ (fun ce q9 H locs hP hD hS hce hcv hcl hgr => ?_)
    exact no_out ht hlk hce hcv hcl hgr hS hP (by first | with_reducible rfl | (simp only [rrMP, rrPri, rrPriM, sld_eq, eq_true q8_1, ↓reduceIte]; done))
  · by_cases q8_3 : st = 0
    · refine rdV (w0 := (wRR G ad o (k, s0, s1, mp, md))) (As := [.int st]) (rest := []) CF (k0_X6_prioritiesOf l G ad o (k, s0, s1, mp, md) st q8_1 q8_3) (cwV 1 hts gX6_estimatedWeight_X6_prioritiesOf rfl rfl rfl (by decide +kernel) ⟨Nat.le_of_ble_eq_true rfl, Nat.le_of_ble_eq_true rfl⟩) hP hY rfl rfl rfl hl.1 rfl (lv_room (Nat.le_of_ble_eq_true rfl)) dX6_estimatedWeight_8 ⟨Nat.zero_le _, Nat.zero_le _⟩ ?_
      refine lv_astore_n (lv' := [(3, .ref (ad (o+1+20))), (0, .ref (ad o)), (1, .int st), (2, .int sl)]) hx hb dX6_estimatedWeight_11 rfl hl (by decide) rfl (fun ls hl => ?_)
      refine lv_iload_n hx hb dX6_estimatedWeight_12 rfl (lv_at hl 3 rfl) ?_
      refine lv_aload_n hx hb dX6_estimatedWeight_13 rfl (lv_at hl 0 rfl) ?_
      have hQ4 := va_P.subm (u := wPri G ad (o+1+20) s0.2.2.2.2.2.2.2.2.1) (fun q h => by simp only [wStr, wRR, List.mem_cons, List.mem_append, h, true_or, or_true]) hP
      refine rdV (w0 := (wPri G ad (o+1+20) s0.2.2.2.2.2.2.2.2.1)) (As := []) (rest := [.int sl]) CF (k_X3_sampled l G ad (o+1+20) s0.2.2.2.2.2.2.2.2.1) (cwV 0 hts gX6_estimatedWeight_X3_sampled rfl rfl rfl (by decide +kernel) ⟨Nat.le_of_ble_eq_true rfl, Nat.le_of_ble_eq_true rfl⟩) hQ4 hY rfl rfl rfl hl.1 rfl (lv_room (Nat.le_of_ble_eq_true rfl)) dX6_estimatedWeight_14 ⟨Nat.zero_le _, Nat.zero_le _⟩ ?_
      refine noS0 (As := [.int sl, .int (priSampled s0.2.2.2.2.2.2.2.2.1)]) (rest := []) CF (kn_X6_checkPlace l hl0 G sl (priSampled s0.2.2.2.2.2.2.2.2.1) (by simpa only [rrMP, rrPri, rrPriM, q8_1, eq_true q8_3, ↓reduceIte] using hs)) (va_cwS 2 hts gX6_estimatedWeight_X6_checkPlace rfl rfl rfl (by decide +kernel) ⟨Nat.le_of_ble_eq_true rfl, Nat.le_of_ble_eq_true rfl⟩) hP hD hS hA hY hZ rfl hl.1 rfl (lv_room (Nat.le_of_ble_eq_true rfl)) dX6_estimatedWeight_17 ⟨Nat.le_of_ble_eq_true rfl, Nat.le_of_ble_eq_true rfl⟩ (fun ce q9 H locs hP hD hS hce hcv hcl hgr => ?_)
      exact no_out ht hlk hce hcv hcl hgr hS hP (by first | with_reducible rfl | (simp only [rrMP, rrPri, rrPriM, sld_eq, q8_1, eq_true q8_3, ↓reduceIte]; done))
    · refine rdV (w0 := (wRR G ad o (k, s0, s1, mp, md))) (As := [.int st]) (rest := []) CF (k1_X6_prioritiesOf l G ad o (k, s0, s1, mp, md) st q8_1 q8_3) (cwV 1 hts gX6_estimatedWeight_X6_prioritiesOf rfl rfl rfl (by decide +kernel) ⟨Nat.le_of_ble_eq_true rfl, Nat.le_of_ble_eq_true rfl⟩) hP hY rfl rfl rfl hl.1 rfl (lv_room (Nat.le_of_ble_eq_true rfl)) dX6_estimatedWeight_8 ⟨Nat.zero_le _, Nat.zero_le _⟩ ?_
      refine lv_astore_n (lv' := [(3, .ref (ad (o+32+20))), (0, .ref (ad o)), (1, .int st), (2, .int sl)]) hx hb dX6_estimatedWeight_11 rfl hl (by decide) rfl (fun ls hl => ?_)
      refine lv_iload_n hx hb dX6_estimatedWeight_12 rfl (lv_at hl 3 rfl) ?_
      refine lv_aload_n hx hb dX6_estimatedWeight_13 rfl (lv_at hl 0 rfl) ?_
      have hQ5 := va_P.subm (u := wPri G ad (o+32+20) s1.2.2.2.2.2.2.2.2.1) (fun q h => by simp only [wStr, wRR, List.mem_cons, List.mem_append, h, true_or, or_true]) hP
      refine rdV (w0 := (wPri G ad (o+32+20) s1.2.2.2.2.2.2.2.2.1)) (As := []) (rest := [.int sl]) CF (k_X3_sampled l G ad (o+32+20) s1.2.2.2.2.2.2.2.2.1) (cwV 0 hts gX6_estimatedWeight_X3_sampled rfl rfl rfl (by decide +kernel) ⟨Nat.le_of_ble_eq_true rfl, Nat.le_of_ble_eq_true rfl⟩) hQ5 hY rfl rfl rfl hl.1 rfl (lv_room (Nat.le_of_ble_eq_true rfl)) dX6_estimatedWeight_14 ⟨Nat.zero_le _, Nat.zero_le _⟩ ?_
      refine noS0 (As := [.int sl, .int (priSampled s1.2.2.2.2.2.2.2.2.1)]) (rest := []) CF (kn_X6_checkPlace l hl0 G sl (priSampled s1.2.2.2.2.2.2.2.2.1) (by simpa only [rrMP, rrPri, rrPriM, q8_1, q8_3, ↓reduceIte] using hs)) (va_cwS 2 hts gX6_estimatedWeight_X6_checkPlace rfl rfl rfl (by decide +kernel) ⟨Nat.le_of_ble_eq_true rfl, Nat.le_of_ble_eq_true rfl⟩) hP hD hS hA hY hZ rfl hl.1 rfl (lv_room (Nat.le_of_ble_eq_true rfl)) dX6_estimatedWeight_17 ⟨Nat.le_of_ble_eq_true rfl, Nat.le_of_ble_eq_true rfl⟩ (fun ce q9 H locs hP hD hS hce hcv hcl hgr => ?_)
      exact no_out ht hlk hce hcv hcl hgr hS hP (by first | with_reducible rfl | (simp only [rrMP, rrPri, rrPriM, sld_eq, q8_1, q8_3, ↓reduceIte]; done))

set_option maxHeartbeats 4000000 in
set_option maxRecDepth 100000 in
theorem k_X6_threshold (l : Launch) (G : GT) (ad : Nat → Nat) (o : Nat) (sg : RRT) (st : Int32) (h0 : okA st 0 2) : Wr l yX6_threshold wsX6_threshold { frames := 7, cells := 0, slots := 0, locals := 136 } G (wRR G ad o sg) (wRR G ad o (rrMP sg st)) [.ref (ad o), .int st] (some (.long (priBound (rrPri sg st)))) := by
  intro sz
  obtain ⟨k, s0, s1, mp, md⟩ := sg
  refine Met.ofW (cc := cX6_threshold) (maxL := 2) (ret := (some .long)) (by decide) rfl ?_
  intro p e s m args below meth c s₁ B hml hv
  obtain ⟨rfl, hsz, hP, hY, hD0⟩ := hv
  subst hsz
  have hD := hD0.self (sz := s.heap.size)
  generalize hAe : va_A (wRR G ad o (k, s0, s1, mp, md)) s.heap.size = A at hD ⊢
  have hA : ∀ q : Nat, s.heap.size ≤ q → A q := fun q h => by rw [← hAe]; exact Or.inr h
  have hS : va_S A s.heap s.heap [] := va_S.rf
  have hx := B.exec
  have hb := B.bytes
  have hr := B.returns
  have hts := atoms_spec (ws := wsX6_threshold) B.pre
  have hown : s.vm.findClass RX6 = some m.cls := findClass_of_methodNamed B.named
  have hlk := B.notSynchronized
  have CF : CallFix p m c cX6_threshold 2 s _ wsX6_threshold RX6 := ⟨hx, hb, hml, hown, hts⟩
  have hl := lv_entry ([.ref (ad o), .int st]) (n := 2) (Nat.le_of_ble_eq_true rfl)
  rw [lg_entry_eq]
  generalize (lg_sl ([.ref (ad o), .int st]) ++ List.replicate (2 - (lg_sl ([.ref (ad o), .int st])).length) Slot.unset).toArray = ls at hl ⊢
  have hl : lv_has ls 2 [(0, .ref (ad o)), (1, .int st)] := hl
  refine lv_iload_n hx hb dX6_threshold_0 rfl (lv_at hl 1 rfl) ?_
  refine lv_iconst (v := 0) hx hb dX6_threshold_1 (by decide) ?_
  refine lv_iconst (v := 2) hx hb dX6_threshold_2 (by decide) ?_
  refine rvS (w0 := []) (As := [.int st, .int 0, .int 2]) (rest := []) CF (k_X6_checkArgument l G st 0 2 h0) (va_cwS 3 hts gX6_threshold_X6_checkArgument rfl rfl rfl (by decide +kernel) ⟨Nat.le_of_ble_eq_true rfl, Nat.le_of_ble_eq_true rfl⟩) va_P_nil hY rfl hl.1 rfl (lv_room (Nat.le_of_ble_eq_true rfl)) dX6_threshold_3 ⟨Nat.zero_le _, Nat.zero_le _⟩ ?_
  refine lv_aload_n hx hb dX6_threshold_6 rfl (lv_at hl 0 rfl) ?_
  refine lv_iload_n hx hb dX6_threshold_7 rfl (lv_at hl 1 rfl) ?_
  by_cases q8_1 : st = 2
  · refine wrV [] (wRR G ad o (k, s0, s1, mp, md)) [] (wRR G ad o (rrMP (k, s0, s1, mp, md) st)) (As := [.int st]) (rest := []) CF (k2_X6_prioritiesOf l G ad o (k, s0, s1, mp, md) st q8_1) (cwV 1 hts gX6_threshold_X6_prioritiesOf rfl rfl rfl (by decide +kernel) ⟨Nat.le_of_ble_eq_true rfl, Nat.le_of_ble_eq_true rfl⟩) hP hD hS hA hY rfl rfl (fst_RR _ _ _ _ _) rfl hl.1 rfl (lv_room (Nat.le_of_ble_eq_true rfl)) dX6_threshold_8 ⟨Nat.zero_le _, Nat.zero_le _⟩ (fun H locs hP hD hS => ?_)
    have hP : va_P G.1 vwCl (wRR G ad o (rrMP (k, s0, s1, mp, md) st)) H := hP
    have hD : va_D A (wRR G ad o (rrMP (k, s0, s1, mp, md) st)) := hD
    have hQ2 := va_P.subm (u := wPri G ad (o+63) ((rrMP (k, s0, s1, mp, md) st).2.2.2.1)) (fun q h => by simp only [wRR, List.mem_cons, List.mem_append, h, true_or, or_true]) hP
    refine rdV (w0 := (wPri G ad (o+63) ((rrMP (k, s0, s1, mp, md) st).2.2.2.1))) (As := []) (rest := []) CF (k_X3_bound l G ad (o+63) ((rrMP (k, s0, s1, mp, md) st).2.2.2.1)) (cwV 0 hts gX6_threshold_X3_bound rfl rfl rfl (by decide +kernel) ⟨Nat.le_of_ble_eq_true rfl, Nat.le_of_ble_eq_true rfl⟩) hQ2 hY rfl rfl rfl hl.1 rfl (lv_room (Nat.le_of_ble_eq_true rfl)) dX6_threshold_11 ⟨Nat.zero_le _, Nat.zero_le _⟩ ?_
    exact wr_lret hx hb hr hlk hS hP (by first | with_reducible rfl | (simp only [rrMP, rrPri, rrPriM, sld_eq, eq_true q8_1, ↓reduceIte]; done)) (by first | with_reducible rfl | (simp only [rrMP, rrPri, rrPriM, sld_eq, eq_true q8_1, ↓reduceIte]; done)) dX6_threshold_14
  · by_cases q8_3 : st = 0
    · refine rdV (w0 := (wRR G ad o (k, s0, s1, mp, md))) (As := [.int st]) (rest := []) CF (k0_X6_prioritiesOf l G ad o (k, s0, s1, mp, md) st q8_1 q8_3) (cwV 1 hts gX6_threshold_X6_prioritiesOf rfl rfl rfl (by decide +kernel) ⟨Nat.le_of_ble_eq_true rfl, Nat.le_of_ble_eq_true rfl⟩) hP hY rfl rfl rfl hl.1 rfl (lv_room (Nat.le_of_ble_eq_true rfl)) dX6_threshold_8 ⟨Nat.zero_le _, Nat.zero_le _⟩ ?_
      have hQ4 := va_P.subm (u := wPri G ad (o+1+20) s0.2.2.2.2.2.2.2.2.1) (fun q h => by simp only [wStr, wRR, List.mem_cons, List.mem_append, h, true_or, or_true]) hP
      refine rdV (w0 := (wPri G ad (o+1+20) s0.2.2.2.2.2.2.2.2.1)) (As := []) (rest := []) CF (k_X3_bound l G ad (o+1+20) s0.2.2.2.2.2.2.2.2.1) (cwV 0 hts gX6_threshold_X3_bound rfl rfl rfl (by decide +kernel) ⟨Nat.le_of_ble_eq_true rfl, Nat.le_of_ble_eq_true rfl⟩) hQ4 hY rfl rfl rfl hl.1 rfl (lv_room (Nat.le_of_ble_eq_true rfl)) dX6_threshold_11 ⟨Nat.zero_le _, Nat.zero_le _⟩ ?_
      exact wr_lret hx hb hr hlk hS hP (by first | with_reducible rfl | (simp only [rrMP, rrPri, rrPriM, sld_eq, q8_1, eq_true q8_3, ↓reduceIte]; done)) (by first | with_reducible rfl | (simp only [rrMP, rrPri, rrPriM, sld_eq, q8_1, eq_true q8_3, ↓reduceIte]; done)) dX6_threshold_14
    · refine rdV (w0 := (wRR G ad o (k, s0, s1, mp, md))) (As := [.int st]) (rest := []) CF (k1_X6_prioritiesOf l G ad o (k, s0, s1, mp, md) st q8_1 q8_3) (cwV 1 hts gX6_threshold_X6_prioritiesOf rfl rfl rfl (by decide +kernel) ⟨Nat.le_of_ble_eq_true rfl, Nat.le_of_ble_eq_true rfl⟩) hP hY rfl rfl rfl hl.1 rfl (lv_room (Nat.le_of_ble_eq_true rfl)) dX6_threshold_8 ⟨Nat.zero_le _, Nat.zero_le _⟩ ?_
      have hQ5 := va_P.subm (u := wPri G ad (o+32+20) s1.2.2.2.2.2.2.2.2.1) (fun q h => by simp only [wStr, wRR, List.mem_cons, List.mem_append, h, true_or, or_true]) hP
      refine rdV (w0 := (wPri G ad (o+32+20) s1.2.2.2.2.2.2.2.2.1)) (As := []) (rest := []) CF (k_X3_bound l G ad (o+32+20) s1.2.2.2.2.2.2.2.2.1) (cwV 0 hts gX6_threshold_X3_bound rfl rfl rfl (by decide +kernel) ⟨Nat.le_of_ble_eq_true rfl, Nat.le_of_ble_eq_true rfl⟩) hQ5 hY rfl rfl rfl hl.1 rfl (lv_room (Nat.le_of_ble_eq_true rfl)) dX6_threshold_11 ⟨Nat.zero_le _, Nat.zero_le _⟩ ?_
      exact wr_lret hx hb hr hlk hS hP (by first | with_reducible rfl | (simp only [rrMP, rrPri, rrPriM, sld_eq, q8_1, q8_3, ↓reduceIte]; done)) (by first | with_reducible rfl | (simp only [rrMP, rrPri, rrPriM, sld_eq, q8_1, q8_3, ↓reduceIte]; done)) dX6_threshold_14

set_option maxHeartbeats 4000000 in
set_option maxRecDepth 100000 in
theorem kn_X6_threshold (l : Launch) (hl0 : l.stackTraces = false) (G : GT) (ad : Nat → Nat) (o : Nat) (sg : RRT) (st : Int32) (hk : ¬ (okA st 0 2)) : No l yX6_threshold wsX6_threshold { frames := 7, cells := 1, slots := 6, locals := 136 } G (wRR G ad o sg) (wRR G ad o sg) [.ref (ad o), .int st] "java/lang/IllegalArgumentException" := by
  intro sz
  obtain ⟨k, s0, s1, mp, md⟩ := sg
  refine vx_ofW (cc := cX6_threshold) (maxL := 2) (ret := (some .long)) (by decide) rfl ?_
  intro p e s m args below meth c s₁ B hml ht hv
  obtain ⟨rfl, hsz, hP, hY, hD0, hZ0⟩ := hv
  subst hsz
  have hD := hD0.self (sz := s.heap.size)
  generalize hAe : va_A (wRR G ad o (k, s0, s1, mp, md)) s.heap.size = A at hD hZ0 ⊢
  have hZ : Zs A s s.heap := hZ0
  have hA : ∀ q : Nat, s.heap.size ≤ q → A q := fun q h => by rw [← hAe]; exact Or.inr h
  have hS : va_S A s.heap s.heap [] := va_S.rf
  have hx := B.exec
  have hb := B.bytes
  have hr := B.returns
  have hts := atoms_spec (ws := wsX6_threshold) B.pre
  have hown : s.vm.findClass RX6 = some m.cls := findClass_of_methodNamed B.named
  have hlk := B.notSynchronized
  have CF : CallFix p m c cX6_threshold 2 s _ wsX6_threshold RX6 := ⟨hx, hb, hml, hown, hts⟩
  have hl := lv_entry ([.ref (ad o), .int st]) (n := 2) (Nat.le_of_ble_eq_true rfl)
  rw [lg_entry_eq]
  generalize (lg_sl ([.ref (ad o), .int st]) ++ List.replicate (2 - (lg_sl ([.ref (ad o), .int st])).length) Slot.unset).toArray = ls at hl ⊢
  have hl : lv_has ls 2 [(0, .ref (ad o)), (1, .int st)] := hl
  refine lv_iload_n hx hb dX6_threshold_0 rfl (lv_at hl 1 rfl) ?_
  refine lv_iconst (v := 0) hx hb dX6_threshold_1 (by decide) ?_
  refine lv_iconst (v := 2) hx hb dX6_threshold_2 (by decide) ?_
  by_cases q3_1 : okA st 0 2
  · refine rvS (w0 := []) (As := [.int st, .int 0, .int 2]) (rest := []) CF (k_X6_checkArgument l G st 0 2 q3_1) (va_cwS 3 hts gX6_threshold_X6_checkArgument rfl rfl rfl (by decide +kernel) ⟨Nat.le_of_ble_eq_true rfl, Nat.le_of_ble_eq_true rfl⟩) va_P_nil hY rfl hl.1 rfl (lv_room (Nat.le_of_ble_eq_true rfl)) dX6_threshold_3 ⟨Nat.zero_le _, Nat.zero_le _⟩ ?_
    exact absurd q3_1 hk
  · refine noS0 (As := [.int st, .int 0, .int 2]) (rest := []) CF (kn_X6_checkArgument l hl0 G st 0 2 q3_1) (va_cwS 3 hts gX6_threshold_X6_checkArgument rfl rfl rfl (by decide +kernel) ⟨Nat.le_of_ble_eq_true rfl, Nat.le_of_ble_eq_true rfl⟩) hP hD hS hA hY hZ rfl hl.1 rfl (lv_room (Nat.le_of_ble_eq_true rfl)) dX6_threshold_3 ⟨Nat.le_of_ble_eq_true rfl, Nat.le_of_ble_eq_true rfl⟩ (fun ce q9 H locs hP hD hS hce hcv hcl hgr => ?_)
    exact no_out ht hlk hce hcv hcl hgr hS hP (by first | with_reducible rfl | (simp only [rrMP, rrPri, rrPriM, sld_eq, q3_1, ↓reduceIte]; done))

set_option maxHeartbeats 4000000 in
set_option maxRecDepth 100000 in
theorem k_X6_estimate (l : Launch) (G : GT) (ad : Nat → Nat) (o : Nat) (sg : RRT) (st gr : Int32) (h0 : okA st 0 2) (h1 : okA gr 0 3) : Wr l yX6_estimate wsX6_estimate { frames := 7, cells := 0, slots := 0, locals := 136 } G (wRR G ad o sg) (wRR G ad o (rrMP sg st)) [.ref (ad o), .int st, .int gr] (some (.long (priEstSum (rrPri sg st) gr))) := by
  intro sz
  obtain ⟨k, s0, s1, mp, md⟩ := sg
  refine Met.ofW (cc := cX6_estimate) (maxL := 3) (ret := (some .long)) (by decide) rfl ?_
  intro p e s m args below meth c s₁ B hml hv
  obtain ⟨rfl, hsz, hP, hY, hD0⟩ := hv
  subst hsz
  have hD := hD0.self (sz := s.heap.size)
  generalize hAe : va_A (wRR G ad o (k, s0, s1, mp, md)) s.heap.size = A at hD ⊢
  have hA : ∀ q : Nat, s.heap.size ≤ q → A q := fun q h => by rw [← hAe]; exact Or.inr h
  have hS : va_S A s.heap s.heap [] := va_S.rf
  have hx := B.exec
  have hb := B.bytes
  have hr := B.returns
  have hts := atoms_spec (ws := wsX6_estimate) B.pre
  have hown : s.vm.findClass RX6 = some m.cls := findClass_of_methodNamed B.named
  have hlk := B.notSynchronized
  have CF : CallFix p m c cX6_estimate 3 s _ wsX6_estimate RX6 := ⟨hx, hb, hml, hown, hts⟩
  have hl := lv_entry ([.ref (ad o), .int st, .int gr]) (n := 3) (Nat.le_of_ble_eq_true rfl)
  rw [lg_entry_eq]
  generalize (lg_sl ([.ref (ad o), .int st, .int gr]) ++ List.replicate (3 - (lg_sl ([.ref (ad o), .int st, .int gr])).length) Slot.unset).toArray = ls at hl ⊢
  have hl : lv_has ls 3 [(0, .ref (ad o)), (1, .int st), (2, .int gr)] := hl
  refine lv_iload_n hx hb dX6_estimate_0 rfl (lv_at hl 1 rfl) ?_
  refine lv_iconst (v := 0) hx hb dX6_estimate_1 (by decide) ?_
  refine lv_iconst (v := 2) hx hb dX6_estimate_2 (by decide) ?_
  refine rvS (w0 := []) (As := [.int st, .int 0, .int 2]) (rest := []) CF (k_X6_checkArgument l G st 0 2 h0) (va_cwS 3 hts gX6_estimate_X6_checkArgument rfl rfl rfl (by decide +kernel) ⟨Nat.le_of_ble_eq_true rfl, Nat.le_of_ble_eq_true rfl⟩) va_P_nil hY rfl hl.1 rfl (lv_room (Nat.le_of_ble_eq_true rfl)) dX6_estimate_3 ⟨Nat.zero_le _, Nat.zero_le _⟩ ?_
  refine lv_iload_n hx hb dX6_estimate_6 rfl (lv_at hl 2 rfl) ?_
  refine lv_iconst (v := 0) hx hb dX6_estimate_7 (by decide) ?_
  refine lv_iconst (v := 3) hx hb dX6_estimate_8 (by decide) ?_
  refine rvS (w0 := []) (As := [.int gr, .int 0, .int 3]) (rest := []) CF (k_X6_checkArgument l G gr 0 3 h1) (va_cwS 3 hts gX6_estimate_X6_checkArgument rfl rfl rfl (by decide +kernel) ⟨Nat.le_of_ble_eq_true rfl, Nat.le_of_ble_eq_true rfl⟩) va_P_nil hY rfl hl.1 rfl (lv_room (Nat.le_of_ble_eq_true rfl)) dX6_estimate_9 ⟨Nat.zero_le _, Nat.zero_le _⟩ ?_
  refine lv_aload_n hx hb dX6_estimate_12 rfl (lv_at hl 0 rfl) ?_
  refine lv_iload_n hx hb dX6_estimate_13 rfl (lv_at hl 1 rfl) ?_
  by_cases q14_1 : st = 2
  · refine wrV [] (wRR G ad o (k, s0, s1, mp, md)) [] (wRR G ad o (rrMP (k, s0, s1, mp, md) st)) (As := [.int st]) (rest := []) CF (k2_X6_prioritiesOf l G ad o (k, s0, s1, mp, md) st q14_1) (cwV 1 hts gX6_estimate_X6_prioritiesOf rfl rfl rfl (by decide +kernel) ⟨Nat.le_of_ble_eq_true rfl, Nat.le_of_ble_eq_true rfl⟩) hP hD hS hA hY rfl rfl (fst_RR _ _ _ _ _) rfl hl.1 rfl (lv_room (Nat.le_of_ble_eq_true rfl)) dX6_estimate_14 ⟨Nat.zero_le _, Nat.zero_le _⟩ (fun H locs hP hD hS => ?_)
    have hP : va_P G.1 vwCl (wRR G ad o (rrMP (k, s0, s1, mp, md) st)) H := hP
    have hD : va_D A (wRR G ad o (rrMP (k, s0, s1, mp, md) st)) := hD
    refine lv_iload_n hx hb dX6_estimate_17 rfl (lv_at hl 2 rfl) ?_
    have hQ2 := va_P.subm (u := wPri G ad (o+63) ((rrMP (k, s0, s1, mp, md) st).2.2.2.1)) (fun q h => by simp only [wRR, List.mem_cons, List.mem_append, h, true_or, or_true]) hP
    refine rdV (w0 := (wPri G ad (o+63) ((rrMP (k, s0, s1, mp, md) st).2.2.2.1))) (As := [.int gr]) (rest := []) CF (k_X3_estimatedSum l G ad (o+63) ((rrMP (k, s0, s1, mp, md) st).2.2.2.1) gr) (cwV 1 hts gX6_estimate_X3_estimatedSum rfl rfl rfl (by decide +kernel) ⟨Nat.le_of_ble_eq_true rfl, Nat.le_of_ble_eq_true rfl⟩) hQ2 hY rfl rfl rfl hl.1 rfl (lv_room (Nat.le_of_ble_eq_true rfl)) dX6_estimate_18 ⟨Nat.zero_le _, Nat.zero_le _⟩ ?_
    exact wr_lret hx hb hr hlk hS hP (by first | with_reducible rfl | (simp only [rrMP, rrPri, rrPriM, sld_eq, eq_true q14_1, ↓reduceIte]; done)) (by first | with_reducible rfl | (simp only [rrMP, rrPri, rrPriM, sld_eq, eq_true q14_1, ↓reduceIte]; done)) dX6_estimate_21
  · by_cases q14_3 : st = 0
    · refine rdV (w0 := (wRR G ad o (k, s0, s1, mp, md))) (As := [.int st]) (rest := []) CF (k0_X6_prioritiesOf l G ad o (k, s0, s1, mp, md) st q14_1 q14_3) (cwV 1 hts gX6_estimate_X6_prioritiesOf rfl rfl rfl (by decide +kernel) ⟨Nat.le_of_ble_eq_true rfl, Nat.le_of_ble_eq_true rfl⟩) hP hY rfl rfl rfl hl.1 rfl (lv_room (Nat.le_of_ble_eq_true rfl)) dX6_estimate_14 ⟨Nat.zero_le _, Nat.zero_le _⟩ ?_
      refine lv_iload_n hx hb dX6_estimate_17 rfl (lv_at hl 2 rfl) ?_
      have hQ4 := va_P.subm (u := wPri G ad (o+1+20) s0.2.2.2.2.2.2.2.2.1) (fun q h => by simp only [wStr, wRR, List.mem_cons, List.mem_append, h, true_or, or_true]) hP
      refine rdV (w0 := (wPri G ad (o+1+20) s0.2.2.2.2.2.2.2.2.1)) (As := [.int gr]) (rest := []) CF (k_X3_estimatedSum l G ad (o+1+20) s0.2.2.2.2.2.2.2.2.1 gr) (cwV 1 hts gX6_estimate_X3_estimatedSum rfl rfl rfl (by decide +kernel) ⟨Nat.le_of_ble_eq_true rfl, Nat.le_of_ble_eq_true rfl⟩) hQ4 hY rfl rfl rfl hl.1 rfl (lv_room (Nat.le_of_ble_eq_true rfl)) dX6_estimate_18 ⟨Nat.zero_le _, Nat.zero_le _⟩ ?_
      exact wr_lret hx hb hr hlk hS hP (by first | with_reducible rfl | (simp only [rrMP, rrPri, rrPriM, sld_eq, q14_1, eq_true q14_3, ↓reduceIte]; done)) (by first | with_reducible rfl | (simp only [rrMP, rrPri, rrPriM, sld_eq, q14_1, eq_true q14_3, ↓reduceIte]; done)) dX6_estimate_21
    · refine rdV (w0 := (wRR G ad o (k, s0, s1, mp, md))) (As := [.int st]) (rest := []) CF (k1_X6_prioritiesOf l G ad o (k, s0, s1, mp, md) st q14_1 q14_3) (cwV 1 hts gX6_estimate_X6_prioritiesOf rfl rfl rfl (by decide +kernel) ⟨Nat.le_of_ble_eq_true rfl, Nat.le_of_ble_eq_true rfl⟩) hP hY rfl rfl rfl hl.1 rfl (lv_room (Nat.le_of_ble_eq_true rfl)) dX6_estimate_14 ⟨Nat.zero_le _, Nat.zero_le _⟩ ?_
      refine lv_iload_n hx hb dX6_estimate_17 rfl (lv_at hl 2 rfl) ?_
      have hQ5 := va_P.subm (u := wPri G ad (o+32+20) s1.2.2.2.2.2.2.2.2.1) (fun q h => by simp only [wStr, wRR, List.mem_cons, List.mem_append, h, true_or, or_true]) hP
      refine rdV (w0 := (wPri G ad (o+32+20) s1.2.2.2.2.2.2.2.2.1)) (As := [.int gr]) (rest := []) CF (k_X3_estimatedSum l G ad (o+32+20) s1.2.2.2.2.2.2.2.2.1 gr) (cwV 1 hts gX6_estimate_X3_estimatedSum rfl rfl rfl (by decide +kernel) ⟨Nat.le_of_ble_eq_true rfl, Nat.le_of_ble_eq_true rfl⟩) hQ5 hY rfl rfl rfl hl.1 rfl (lv_room (Nat.le_of_ble_eq_true rfl)) dX6_estimate_18 ⟨Nat.zero_le _, Nat.zero_le _⟩ ?_
      exact wr_lret hx hb hr hlk hS hP (by first | with_reducible rfl | (simp only [rrMP, rrPri, rrPriM, sld_eq, q14_1, q14_3, ↓reduceIte]; done)) (by first | with_reducible rfl | (simp only [rrMP, rrPri, rrPriM, sld_eq, q14_1, q14_3, ↓reduceIte]; done)) dX6_estimate_21

set_option maxHeartbeats 4000000 in
set_option maxRecDepth 100000 in
theorem kn_X6_estimate (l : Launch) (hl0 : l.stackTraces = false) (G : GT) (ad : Nat → Nat) (o : Nat) (sg : RRT) (st gr : Int32) (hk : ¬ (okA st 0 2 ∧ okA gr 0 3)) : No l yX6_estimate wsX6_estimate { frames := 7, cells := 1, slots := 6, locals := 136 } G (wRR G ad o sg) (wRR G ad o sg) [.ref (ad o), .int st, .int gr] "java/lang/IllegalArgumentException" := by
  intro sz
  obtain ⟨k, s0, s1, mp, md⟩ := sg
  refine vx_ofW (cc := cX6_estimate) (maxL := 3) (ret := (some .long)) (by decide) rfl ?_
  intro p e s m args below meth c s₁ B hml ht hv
  obtain ⟨rfl, hsz, hP, hY, hD0, hZ0⟩ := hv
  subst hsz
  have hD := hD0.self (sz := s.heap.size)
  generalize hAe : va_A (wRR G ad o (k, s0, s1, mp, md)) s.heap.size = A at hD hZ0 ⊢
  have hZ : Zs A s s.heap := hZ0
  have hA : ∀ q : Nat, s.heap.size ≤ q → A q := fun q h => by rw [← hAe]; exact Or.inr h
  have hS : va_S A s.heap s.heap [] := va_S.rf
  have hx := B.exec
  have hb := B.bytes
  have hr := B.returns
  have hts := atoms_spec (ws := wsX6_estimate) B.pre
  have hown : s.vm.findClass RX6 = some m.cls := findClass_of_methodNamed B.named
  have hlk := B.notSynchronized
  have CF : CallFix p m c cX6_estimate 3 s _ wsX6_estimate RX6 := ⟨hx, hb, hml, hown, hts⟩
  have hl := lv_entry ([.ref (ad o), .int st, .int gr]) (n := 3) (Nat.le_of_ble_eq_true rfl)
  rw [lg_entry_eq]
  generalize (lg_sl ([.ref (ad o), .int st, .int gr]) ++ List.replicate (3 - (lg_sl ([.ref (ad o), .int st, .int gr])).length) Slot.unset).toArray = ls at hl ⊢
  have hl : lv_has ls 3 [(0, .ref (ad o)), (1, .int st), (2, .int gr)] := hl
  refine lv_iload_n hx hb dX6_estimate_0 rfl (lv_at hl 1 rfl) ?_
  refine lv_iconst (v := 0) hx hb dX6_estimate_1 (by decide) ?_
  refine lv_iconst (v := 2) hx hb dX6_estimate_2 (by decide) ?_
  by_cases q3_1 : okA st 0 2
  · refine rvS (w0 := []) (As := [.int st, .int 0, .int 2]) (rest := []) CF (k_X6_checkArgument l G st 0 2 q3_1) (va_cwS 3 hts gX6_estimate_X6_checkArgument rfl rfl rfl (by decide +kernel) ⟨Nat.le_of_ble_eq_true rfl, Nat.le_of_ble_eq_true rfl⟩) va_P_nil hY rfl hl.1 rfl (lv_room (Nat.le_of_ble_eq_true rfl)) dX6_estimate_3 ⟨Nat.zero_le _, Nat.zero_le _⟩ ?_
    refine lv_iload_n hx hb dX6_estimate_6 rfl (lv_at hl 2 rfl) ?_
    refine lv_iconst (v := 0) hx hb dX6_estimate_7 (by decide) ?_
    refine lv_iconst (v := 3) hx hb dX6_estimate_8 (by decide) ?_
    by_cases q9_2 : okA gr 0 3
    · refine rvS (w0 := []) (As := [.int gr, .int 0, .int 3]) (rest := []) CF (k_X6_checkArgument l G gr 0 3 q9_2) (va_cwS 3 hts gX6_estimate_X6_checkArgument rfl rfl rfl (by decide +kernel) ⟨Nat.le_of_ble_eq_true rfl, Nat.le_of_ble_eq_true rfl⟩) va_P_nil hY rfl hl.1 rfl (lv_room (Nat.le_of_ble_eq_true rfl)) dX6_estimate_9 ⟨Nat.zero_le _, Nat.zero_le _⟩ ?_
      exact absurd ⟨q3_1, q9_2⟩ hk
    · refine noS0 (As := [.int gr, .int 0, .int 3]) (rest := []) CF (kn_X6_checkArgument l hl0 G gr 0 3 q9_2) (va_cwS 3 hts gX6_estimate_X6_checkArgument rfl rfl rfl (by decide +kernel) ⟨Nat.le_of_ble_eq_true rfl, Nat.le_of_ble_eq_true rfl⟩) hP hD hS hA hY hZ rfl hl.1 rfl (lv_room (Nat.le_of_ble_eq_true rfl)) dX6_estimate_9 ⟨Nat.le_of_ble_eq_true rfl, Nat.le_of_ble_eq_true rfl⟩ (fun ce q9 H locs hP hD hS hce hcv hcl hgr => ?_)
      exact no_out ht hlk hce hcv hcl hgr hS hP (by first | with_reducible rfl | (simp only [rrMP, rrPri, rrPriM, sld_eq, q3_1, q9_2, ↓reduceIte]; done))
  · refine noS0 (As := [.int st, .int 0, .int 2]) (rest := []) CF (kn_X6_checkArgument l hl0 G st 0 2 q3_1) (va_cwS 3 hts gX6_estimate_X6_checkArgument rfl rfl rfl (by decide +kernel) ⟨Nat.le_of_ble_eq_true rfl, Nat.le_of_ble_eq_true rfl⟩) hP hD hS hA hY hZ rfl hl.1 rfl (lv_room (Nat.le_of_ble_eq_true rfl)) dX6_estimate_3 ⟨Nat.le_of_ble_eq_true rfl, Nat.le_of_ble_eq_true rfl⟩ (fun ce q9 H locs hP hD hS hce hcv hcl hgr => ?_)
    exact no_out ht hlk hce hcv hcl hgr hS hP (by first | with_reducible rfl | (simp only [rrMP, rrPri, rrPriM, sld_eq, q3_1, ↓reduceIte]; done))

set_option maxHeartbeats 4000000 in
set_option maxRecDepth 100000 in
theorem k_X6_sampledWeight (l : Launch) (G : GT) (ad : Nat → Nat) (o : Nat) (sg : RRT) (st gr : Int32) (h0 : okA st 0 2) (h1 : okA gr 0 3) : Wr l yX6_sampledWeight wsX6_sampledWeight { frames := 7, cells := 0, slots := 0, locals := 136 } G (wRR G ad o sg) (wRR G ad o (rrMP sg st)) [.ref (ad o), .int st, .int gr] (some (.int (priWSum (rrPri sg st) gr))) := by
  intro sz
  obtain ⟨k, s0, s1, mp, md⟩ := sg
  refine Met.ofW (cc := cX6_sampledWeight) (maxL := 3) (ret := (some .int)) (by decide) rfl ?_
  intro p e s m args below meth c s₁ B hml hv
  obtain ⟨rfl, hsz, hP, hY, hD0⟩ := hv
  subst hsz
  have hD := hD0.self (sz := s.heap.size)
  generalize hAe : va_A (wRR G ad o (k, s0, s1, mp, md)) s.heap.size = A at hD ⊢
  have hA : ∀ q : Nat, s.heap.size ≤ q → A q := fun q h => by rw [← hAe]; exact Or.inr h
  have hS : va_S A s.heap s.heap [] := va_S.rf
  have hx := B.exec
  have hb := B.bytes
  have hr := B.returns
  have hts := atoms_spec (ws := wsX6_sampledWeight) B.pre
  have hown : s.vm.findClass RX6 = some m.cls := findClass_of_methodNamed B.named
  have hlk := B.notSynchronized
  have CF : CallFix p m c cX6_sampledWeight 3 s _ wsX6_sampledWeight RX6 := ⟨hx, hb, hml, hown, hts⟩
  have hl := lv_entry ([.ref (ad o), .int st, .int gr]) (n := 3) (Nat.le_of_ble_eq_true rfl)
  rw [lg_entry_eq]
  generalize (lg_sl ([.ref (ad o), .int st, .int gr]) ++ List.replicate (3 - (lg_sl ([.ref (ad o), .int st, .int gr])).length) Slot.unset).toArray = ls at hl ⊢
  have hl : lv_has ls 3 [(0, .ref (ad o)), (1, .int st), (2, .int gr)] := hl
  refine lv_iload_n hx hb dX6_sampledWeight_0 rfl (lv_at hl 1 rfl) ?_
  refine lv_iconst (v := 0) hx hb dX6_sampledWeight_1 (by decide) ?_
  refine lv_iconst (v := 2) hx hb dX6_sampledWeight_2 (by decide) ?_
  refine rvS (w0 := []) (As := [.int st, .int 0, .int 2]) (rest := []) CF (k_X6_checkArgument l G st 0 2 h0) (va_cwS 3 hts gX6_sampledWeight_X6_checkArgument rfl rfl rfl (by decide +kernel) ⟨Nat.le_of_ble_eq_true rfl, Nat.le_of_ble_eq_true rfl⟩) va_P_nil hY rfl hl.1 rfl (lv_room (Nat.le_of_ble_eq_true rfl)) dX6_sampledWeight_3 ⟨Nat.zero_le _, Nat.zero_le _⟩ ?_
  refine lv_iload_n hx hb dX6_sampledWeight_6 rfl (lv_at hl 2 rfl) ?_
  refine lv_iconst (v := 0) hx hb dX6_sampledWeight_7 (by decide) ?_
  refine lv_iconst (v := 3) hx hb dX6_sampledWeight_8 (by decide) ?_
  refine rvS (w0 := []) (As := [.int gr, .int 0, .int 3]) (rest := []) CF (k_X6_checkArgument l G gr 0 3 h1) (va_cwS 3 hts gX6_sampledWeight_X6_checkArgument rfl rfl rfl (by decide +kernel) ⟨Nat.le_of_ble_eq_true rfl, Nat.le_of_ble_eq_true rfl⟩) va_P_nil hY rfl hl.1 rfl (lv_room (Nat.le_of_ble_eq_true rfl)) dX6_sampledWeight_9 ⟨Nat.zero_le _, Nat.zero_le _⟩ ?_
  refine lv_aload_n hx hb dX6_sampledWeight_12 rfl (lv_at hl 0 rfl) ?_
  refine lv_iload_n hx hb dX6_sampledWeight_13 rfl (lv_at hl 1 rfl) ?_
  by_cases q14_1 : st = 2
  · refine wrV [] (wRR G ad o (k, s0, s1, mp, md)) [] (wRR G ad o (rrMP (k, s0, s1, mp, md) st)) (As := [.int st]) (rest := []) CF (k2_X6_prioritiesOf l G ad o (k, s0, s1, mp, md) st q14_1) (cwV 1 hts gX6_sampledWeight_X6_prioritiesOf rfl rfl rfl (by decide +kernel) ⟨Nat.le_of_ble_eq_true rfl, Nat.le_of_ble_eq_true rfl⟩) hP hD hS hA hY rfl rfl (fst_RR _ _ _ _ _) rfl hl.1 rfl (lv_room (Nat.le_of_ble_eq_true rfl)) dX6_sampledWeight_14 ⟨Nat.zero_le _, Nat.zero_le _⟩ (fun H locs hP hD hS => ?_)
    have hP : va_P G.1 vwCl (wRR G ad o (rrMP (k, s0, s1, mp, md) st)) H := hP
    have hD : va_D A (wRR G ad o (rrMP (k, s0, s1, mp, md) st)) := hD
    refine lv_iload_n hx hb dX6_sampledWeight_17 rfl (lv_at hl 2 rfl) ?_
    have hQ2 := va_P.subm (u := wPri G ad (o+63) ((rrMP (k, s0, s1, mp, md) st).2.2.2.1)) (fun q h => by simp only [wRR, List.mem_cons, List.mem_append, h, true_or, or_true]) hP
    refine rdV (w0 := (wPri G ad (o+63) ((rrMP (k, s0, s1, mp, md) st).2.2.2.1))) (As := [.int gr]) (rest := []) CF (k_X3_weightSum l G ad (o+63) ((rrMP (k, s0, s1, mp, md) st).2.2.2.1) gr) (cwV 1 hts gX6_sampledWeight_X3_weightSum rfl rfl rfl (by decide +kernel) ⟨Nat.le_of_ble_eq_true rfl, Nat.le_of_ble_eq_true rfl⟩) hQ2 hY rfl rfl rfl hl.1 rfl (lv_room (Nat.le_of_ble_eq_true rfl)) dX6_sampledWeight_18 ⟨Nat.zero_le _, Nat.zero_le _⟩ ?_
    exact wr_iret hx hb hr hlk hS hP (by first | with_reducible rfl | (simp only [rrMP, rrPri, rrPriM, sld_eq, eq_true q14_1, ↓reduceIte]; done)) (by first | with_reducible rfl | (simp only [rrMP, rrPri, rrPriM, sld_eq, eq_true q14_1, ↓reduceIte]; done)) dX6_sampledWeight_21
  · by_cases q14_3 : st = 0
    · refine rdV (w0 := (wRR G ad o (k, s0, s1, mp, md))) (As := [.int st]) (rest := []) CF (k0_X6_prioritiesOf l G ad o (k, s0, s1, mp, md) st q14_1 q14_3) (cwV 1 hts gX6_sampledWeight_X6_prioritiesOf rfl rfl rfl (by decide +kernel) ⟨Nat.le_of_ble_eq_true rfl, Nat.le_of_ble_eq_true rfl⟩) hP hY rfl rfl rfl hl.1 rfl (lv_room (Nat.le_of_ble_eq_true rfl)) dX6_sampledWeight_14 ⟨Nat.zero_le _, Nat.zero_le _⟩ ?_
      refine lv_iload_n hx hb dX6_sampledWeight_17 rfl (lv_at hl 2 rfl) ?_
      have hQ4 := va_P.subm (u := wPri G ad (o+1+20) s0.2.2.2.2.2.2.2.2.1) (fun q h => by simp only [wStr, wRR, List.mem_cons, List.mem_append, h, true_or, or_true]) hP
      refine rdV (w0 := (wPri G ad (o+1+20) s0.2.2.2.2.2.2.2.2.1)) (As := [.int gr]) (rest := []) CF (k_X3_weightSum l G ad (o+1+20) s0.2.2.2.2.2.2.2.2.1 gr) (cwV 1 hts gX6_sampledWeight_X3_weightSum rfl rfl rfl (by decide +kernel) ⟨Nat.le_of_ble_eq_true rfl, Nat.le_of_ble_eq_true rfl⟩) hQ4 hY rfl rfl rfl hl.1 rfl (lv_room (Nat.le_of_ble_eq_true rfl)) dX6_sampledWeight_18 ⟨Nat.zero_le _, Nat.zero_le _⟩ ?_
      exact wr_iret hx hb hr hlk hS hP (by first | with_reducible rfl | (simp only [rrMP, rrPri, rrPriM, sld_eq, q14_1, eq_true q14_3, ↓reduceIte]; done)) (by first | with_reducible rfl | (simp only [rrMP, rrPri, rrPriM, sld_eq, q14_1, eq_true q14_3, ↓reduceIte]; done)) dX6_sampledWeight_21
    · refine rdV (w0 := (wRR G ad o (k, s0, s1, mp, md))) (As := [.int st]) (rest := []) CF (k1_X6_prioritiesOf l G ad o (k, s0, s1, mp, md) st q14_1 q14_3) (cwV 1 hts gX6_sampledWeight_X6_prioritiesOf rfl rfl rfl (by decide +kernel) ⟨Nat.le_of_ble_eq_true rfl, Nat.le_of_ble_eq_true rfl⟩) hP hY rfl rfl rfl hl.1 rfl (lv_room (Nat.le_of_ble_eq_true rfl)) dX6_sampledWeight_14 ⟨Nat.zero_le _, Nat.zero_le _⟩ ?_
      refine lv_iload_n hx hb dX6_sampledWeight_17 rfl (lv_at hl 2 rfl) ?_
      have hQ5 := va_P.subm (u := wPri G ad (o+32+20) s1.2.2.2.2.2.2.2.2.1) (fun q h => by simp only [wStr, wRR, List.mem_cons, List.mem_append, h, true_or, or_true]) hP
      refine rdV (w0 := (wPri G ad (o+32+20) s1.2.2.2.2.2.2.2.2.1)) (As := [.int gr]) (rest := []) CF (k_X3_weightSum l G ad (o+32+20) s1.2.2.2.2.2.2.2.2.1 gr) (cwV 1 hts gX6_sampledWeight_X3_weightSum rfl rfl rfl (by decide +kernel) ⟨Nat.le_of_ble_eq_true rfl, Nat.le_of_ble_eq_true rfl⟩) hQ5 hY rfl rfl rfl hl.1 rfl (lv_room (Nat.le_of_ble_eq_true rfl)) dX6_sampledWeight_18 ⟨Nat.zero_le _, Nat.zero_le _⟩ ?_
      exact wr_iret hx hb hr hlk hS hP (by first | with_reducible rfl | (simp only [rrMP, rrPri, rrPriM, sld_eq, q14_1, q14_3, ↓reduceIte]; done)) (by first | with_reducible rfl | (simp only [rrMP, rrPri, rrPriM, sld_eq, q14_1, q14_3, ↓reduceIte]; done)) dX6_sampledWeight_21

set_option maxHeartbeats 4000000 in
set_option maxRecDepth 100000 in
theorem kn_X6_sampledWeight (l : Launch) (hl0 : l.stackTraces = false) (G : GT) (ad : Nat → Nat) (o : Nat) (sg : RRT) (st gr : Int32) (hk : ¬ (okA st 0 2 ∧ okA gr 0 3)) : No l yX6_sampledWeight wsX6_sampledWeight { frames := 7, cells := 1, slots := 6, locals := 136 } G (wRR G ad o sg) (wRR G ad o sg) [.ref (ad o), .int st, .int gr] "java/lang/IllegalArgumentException" := by
  intro sz
  obtain ⟨k, s0, s1, mp, md⟩ := sg
  refine vx_ofW (cc := cX6_sampledWeight) (maxL := 3) (ret := (some .int)) (by decide) rfl ?_
  intro p e s m args below meth c s₁ B hml ht hv
  obtain ⟨rfl, hsz, hP, hY, hD0, hZ0⟩ := hv
  subst hsz
  have hD := hD0.self (sz := s.heap.size)
  generalize hAe : va_A (wRR G ad o (k, s0, s1, mp, md)) s.heap.size = A at hD hZ0 ⊢
  have hZ : Zs A s s.heap := hZ0
  have hA : ∀ q : Nat, s.heap.size ≤ q → A q := fun q h => by rw [← hAe]; exact Or.inr h
  have hS : va_S A s.heap s.heap [] := va_S.rf
  have hx := B.exec
  have hb := B.bytes
  have hr := B.returns
  have hts := atoms_spec (ws := wsX6_sampledWeight) B.pre
  have hown : s.vm.findClass RX6 = some m.cls := findClass_of_methodNamed B.named
  have hlk := B.notSynchronized
  have CF : CallFix p m c cX6_sampledWeight 3 s _ wsX6_sampledWeight RX6 := ⟨hx, hb, hml, hown, hts⟩
  have hl := lv_entry ([.ref (ad o), .int st, .int gr]) (n := 3) (Nat.le_of_ble_eq_true rfl)
  rw [lg_entry_eq]
  generalize (lg_sl ([.ref (ad o), .int st, .int gr]) ++ List.replicate (3 - (lg_sl ([.ref (ad o), .int st, .int gr])).length) Slot.unset).toArray = ls at hl ⊢
  have hl : lv_has ls 3 [(0, .ref (ad o)), (1, .int st), (2, .int gr)] := hl
  refine lv_iload_n hx hb dX6_sampledWeight_0 rfl (lv_at hl 1 rfl) ?_
  refine lv_iconst (v := 0) hx hb dX6_sampledWeight_1 (by decide) ?_
  refine lv_iconst (v := 2) hx hb dX6_sampledWeight_2 (by decide) ?_
  by_cases q3_1 : okA st 0 2
  · refine rvS (w0 := []) (As := [.int st, .int 0, .int 2]) (rest := []) CF (k_X6_checkArgument l G st 0 2 q3_1) (va_cwS 3 hts gX6_sampledWeight_X6_checkArgument rfl rfl rfl (by decide +kernel) ⟨Nat.le_of_ble_eq_true rfl, Nat.le_of_ble_eq_true rfl⟩) va_P_nil hY rfl hl.1 rfl (lv_room (Nat.le_of_ble_eq_true rfl)) dX6_sampledWeight_3 ⟨Nat.zero_le _, Nat.zero_le _⟩ ?_
    refine lv_iload_n hx hb dX6_sampledWeight_6 rfl (lv_at hl 2 rfl) ?_
    refine lv_iconst (v := 0) hx hb dX6_sampledWeight_7 (by decide) ?_
    refine lv_iconst (v := 3) hx hb dX6_sampledWeight_8 (by decide) ?_
    by_cases q9_2 : okA gr 0 3
    · refine rvS (w0 := []) (As := [.int gr, .int 0, .int 3]) (rest := []) CF (k_X6_checkArgument l G gr 0 3 q9_2) (va_cwS 3 hts gX6_sampledWeight_X6_checkArgument rfl rfl rfl (by decide +kernel) ⟨Nat.le_of_ble_eq_true rfl, Nat.le_of_ble_eq_true rfl⟩) va_P_nil hY rfl hl.1 rfl (lv_room (Nat.le_of_ble_eq_true rfl)) dX6_sampledWeight_9 ⟨Nat.zero_le _, Nat.zero_le _⟩ ?_
      exact absurd ⟨q3_1, q9_2⟩ hk
    · refine noS0 (As := [.int gr, .int 0, .int 3]) (rest := []) CF (kn_X6_checkArgument l hl0 G gr 0 3 q9_2) (va_cwS 3 hts gX6_sampledWeight_X6_checkArgument rfl rfl rfl (by decide +kernel) ⟨Nat.le_of_ble_eq_true rfl, Nat.le_of_ble_eq_true rfl⟩) hP hD hS hA hY hZ rfl hl.1 rfl (lv_room (Nat.le_of_ble_eq_true rfl)) dX6_sampledWeight_9 ⟨Nat.le_of_ble_eq_true rfl, Nat.le_of_ble_eq_true rfl⟩ (fun ce q9 H locs hP hD hS hce hcv hcl hgr => ?_)
      exact no_out ht hlk hce hcv hcl hgr hS hP (by first | with_reducible rfl | (simp only [rrMP, rrPri, rrPriM, sld_eq, q3_1, q9_2, ↓reduceIte]; done))
  · refine noS0 (As := [.int st, .int 0, .int 2]) (rest := []) CF (kn_X6_checkArgument l hl0 G st 0 2 q3_1) (va_cwS 3 hts gX6_sampledWeight_X6_checkArgument rfl rfl rfl (by decide +kernel) ⟨Nat.le_of_ble_eq_true rfl, Nat.le_of_ble_eq_true rfl⟩) hP hD hS hA hY hZ rfl hl.1 rfl (lv_room (Nat.le_of_ble_eq_true rfl)) dX6_sampledWeight_3 ⟨Nat.le_of_ble_eq_true rfl, Nat.le_of_ble_eq_true rfl⟩ (fun ce q9 H locs hP hD hS hce hcv hcl hgr => ?_)
    exact no_out ht hlk hce hcv hcl hgr hS hP (by first | with_reducible rfl | (simp only [rrMP, rrPri, rrPriM, sld_eq, q3_1, ↓reduceIte]; done))
