set_option maxHeartbeats 4000000 in
set_option maxRecDepth 100000 in
theorem k_X6_distinctSize (l : Launch) (G : GT) (ad : Nat → Nat) (o : Nat) (sg : RRT) (st : Int32) (h0 : okA st 0 2) : Wr l yX6_distinctSize wsX6_distinctSize { frames := 7, cells := 0, slots := 0, locals := 122 } G (wRR G ad o sg) (wRR G ad o (rrMD sg st)) [.ref (ad o), .int st] (some (.int ((rrDis sg st).2.1))) := by
  intro sz
  obtain ⟨k, s0, s1, mp, md⟩ := sg
  refine Met.ofW (cc := cX6_distinctSize) (maxL := 2) (ret := (some .int)) (by decide) rfl ?_
  intro p e s m args below meth c s₁ B hml hv
  obtain ⟨rfl, hsz, hP, hY, hD0⟩ := hv
  subst hsz
  have hD := hD0.self (sz := s.heap.size)
  generalize hAe : va_A (wRR G ad o (k, s0, s1, mp, md)) s.heap.size = A at hD ⊢
  have hA : ∀ q : Nat, s.heap.size ≤ q → A q := fun q h => by rw [← hAe]; exact Or.inr h
  have hS : va_S A s.heap s.heap [] := va_S.rf
  have hx := B.exec
  have hb := B.bytes
  have hr := B.returns
  have hts := atoms_spec (ws := wsX6_distinctSize) B.pre
  have hown : s.vm.findClass RX6 = some m.cls := findClass_of_methodNamed B.named
  have hlk := B.notSynchronized
  have CF : CallFix p m c cX6_distinctSize 2 s _ wsX6_distinctSize RX6 := ⟨hx, hb, hml, hown, hts⟩
  have hiX1 : ∀ w ∈ wsX10, w ∈ wsX6_distinctSize := fun w h => (List.mem_cons_of_mem _ (List.mem_append_left _ (List.mem_append_left _ (List.mem_append_left _ (List.mem_append_right _ h)))))
  have hl := lv_entry ([.ref (ad o), .int st]) (n := 2) (Nat.le_of_ble_eq_true rfl)
  rw [lg_entry_eq]
  generalize (lg_sl ([.ref (ad o), .int st]) ++ List.replicate (2 - (lg_sl ([.ref (ad o), .int st])).length) Slot.unset).toArray = ls at hl ⊢
  have hl : lv_has ls 2 [(0, .ref (ad o)), (1, .int st)] := hl
  refine lv_iload_n hx hb dX6_distinctSize_0 rfl (lv_at hl 1 rfl) ?_
  refine lv_iconst (v := 0) hx hb dX6_distinctSize_1 (by decide) ?_
  refine lv_iconst (v := 2) hx hb dX6_distinctSize_2 (by decide) ?_
  refine rvS (w0 := []) (As := [.int st, .int 0, .int 2]) (rest := []) CF (k_X6_checkArgument l G st 0 2 h0) (va_cwS 3 hts gX6_distinctSize_X6_checkArgument rfl rfl rfl (by decide +kernel) ⟨Nat.le_of_ble_eq_true rfl, Nat.le_of_ble_eq_true rfl⟩) va_P_nil hY rfl hl.1 rfl (lv_room (Nat.le_of_ble_eq_true rfl)) dX6_distinctSize_3 ⟨Nat.zero_le _, Nat.zero_le _⟩ ?_
  refine lv_aload_n hx hb dX6_distinctSize_6 rfl (lv_at hl 0 rfl) ?_
  refine lv_iload_n hx hb dX6_distinctSize_7 rfl (lv_at hl 1 rfl) ?_
  by_cases q8_1 : st = 2
  · refine wrV [] (wRR G ad o (k, s0, s1, mp, md)) [] (wRR G ad o (rrMD (k, s0, s1, mp, md) st)) (As := [.int st]) (rest := []) CF (k2_X6_distinctOf l G ad o (k, s0, s1, mp, md) st q8_1) (cwV 1 hts gX6_distinctSize_X6_distinctOf rfl rfl rfl (by decide +kernel) ⟨Nat.le_of_ble_eq_true rfl, Nat.le_of_ble_eq_true rfl⟩) hP hD hS hA hY rfl rfl (fst_RR _ _ _ _ _) rfl hl.1 rfl (lv_room (Nat.le_of_ble_eq_true rfl)) dX6_distinctSize_8 ⟨Nat.zero_le _, Nat.zero_le _⟩ (fun H locs hP hD hS => ?_)
    have hP : va_P G.1 vwCl (wRR G ad o (rrMD (k, s0, s1, mp, md) st)) H := hP
    have hD : va_D A (wRR G ad o (rrMD (k, s0, s1, mp, md) st)) := hD
    have hQ2 := va_P.subm (u := wDis G ad (o+68) ((rrMD (k, s0, s1, mp, md) st).2.2.2.2)) (fun q h => by simp only [wRR, List.mem_cons, List.mem_append, h, true_or, or_true]) hP
    refine va_getN (D := G.1) (ci := 1) (v := .int (((rrMD (k, s0, s1, mp, md) st).2.2.2.2).2.1)) (C := RX1) (T := TX1) (N := 4) hx hb hts hiX1 hown hY.1 hQ2 0 rfl rfl 3 (by decide) (va_Nw.use rfl (hY.2.1 (.fieldLinkNest RX6 126 RX1 "held" "I" RX6) (List.mem_of_getElem? (i := 1) rfl))) (fun _ h9 => h9) rfl dX6_distinctSize_11 ?_
    exact wr_iret hx hb hr hlk hS hP (by first | with_reducible rfl | (simp only [rrMD, rrDis, rrDisM, sld_eq, eq_true q8_1, ↓reduceIte]; done)) (by first | with_reducible rfl | (simp only [rrMD, rrDis, rrDisM, sld_eq, eq_true q8_1, ↓reduceIte]; done)) dX6_distinctSize_14
  · by_cases q8_3 : st = 0
    · refine rdV (w0 := (wRR G ad o (k, s0, s1, mp, md))) (As := [.int st]) (rest := []) CF (k0_X6_distinctOf l G ad o (k, s0, s1, mp, md) st q8_1 q8_3) (cwV 1 hts gX6_distinctSize_X6_distinctOf rfl rfl rfl (by decide +kernel) ⟨Nat.le_of_ble_eq_true rfl, Nat.le_of_ble_eq_true rfl⟩) hP hY rfl rfl rfl hl.1 rfl (lv_room (Nat.le_of_ble_eq_true rfl)) dX6_distinctSize_8 ⟨Nat.zero_le _, Nat.zero_le _⟩ ?_
      have hQ4 := va_P.subm (u := wDis G ad (o+1+25) s0.2.2.2.2.2.2.2.2.2.1) (fun q h => by simp only [wStr, wRR, List.mem_cons, List.mem_append, h, true_or, or_true]) hP
      refine va_getN (D := G.1) (ci := 1) (v := .int s0.2.2.2.2.2.2.2.2.2.1.2.1) (C := RX1) (T := TX1) (N := 4) hx hb hts hiX1 hown hY.1 hQ4 0 rfl rfl 3 (by decide) (va_Nw.use rfl (hY.2.1 (.fieldLinkNest RX6 126 RX1 "held" "I" RX6) (List.mem_of_getElem? (i := 1) rfl))) (fun _ h9 => h9) rfl dX6_distinctSize_11 ?_
      exact wr_iret hx hb hr hlk hS hP (by first | with_reducible rfl | (simp only [rrMD, rrDis, rrDisM, sld_eq, q8_1, eq_true q8_3, ↓reduceIte]; done)) (by first | with_reducible rfl | (simp only [rrMD, rrDis, rrDisM, sld_eq, q8_1, eq_true q8_3, ↓reduceIte]; done)) dX6_distinctSize_14
    · refine rdV (w0 := (wRR G ad o (k, s0, s1, mp, md))) (As := [.int st]) (rest := []) CF (k1_X6_distinctOf l G ad o (k, s0, s1, mp, md) st q8_1 q8_3) (cwV 1 hts gX6_distinctSize_X6_distinctOf rfl rfl rfl (by decide +kernel) ⟨Nat.le_of_ble_eq_true rfl, Nat.le_of_ble_eq_true rfl⟩) hP hY rfl rfl rfl hl.1 rfl (lv_room (Nat.le_of_ble_eq_true rfl)) dX6_distinctSize_8 ⟨Nat.zero_le _, Nat.zero_le _⟩ ?_
      have hQ5 := va_P.subm (u := wDis G ad (o+32+25) s1.2.2.2.2.2.2.2.2.2.1) (fun q h => by simp only [wStr, wRR, List.mem_cons, List.mem_append, h, true_or, or_true]) hP
      refine va_getN (D := G.1) (ci := 1) (v := .int s1.2.2.2.2.2.2.2.2.2.1.2.1) (C := RX1) (T := TX1) (N := 4) hx hb hts hiX1 hown hY.1 hQ5 0 rfl rfl 3 (by decide) (va_Nw.use rfl (hY.2.1 (.fieldLinkNest RX6 126 RX1 "held" "I" RX6) (List.mem_of_getElem? (i := 1) rfl))) (fun _ h9 => h9) rfl dX6_distinctSize_11 ?_
      exact wr_iret hx hb hr hlk hS hP (by first | with_reducible rfl | (simp only [rrMD, rrDis, rrDisM, sld_eq, q8_1, q8_3, ↓reduceIte]; done)) (by first | with_reducible rfl | (simp only [rrMD, rrDis, rrDisM, sld_eq, q8_1, q8_3, ↓reduceIte]; done)) dX6_distinctSize_14

set_option maxHeartbeats 4000000 in
set_option maxRecDepth 100000 in
theorem kn_X6_distinctSize (l : Launch) (hl0 : l.stackTraces = false) (G : GT) (ad : Nat → Nat) (o : Nat) (sg : RRT) (st : Int32) (hk : ¬ (okA st 0 2)) : No l yX6_distinctSize wsX6_distinctSize { frames := 7, cells := 1, slots := 6, locals := 122 } G (wRR G ad o sg) (wRR G ad o sg) [.ref (ad o), .int st] "java/lang/IllegalArgumentException" := by
  intro sz
  obtain ⟨k, s0, s1, mp, md⟩ := sg
  refine vx_ofW (cc := cX6_distinctSize) (maxL := 2) (ret := (some .int)) (by decide) rfl ?_
  intro p e s m args below meth c s₁ B hml ht hv
  obtain ⟨rfl, hsz, hP, hY, hD0, hZ0⟩ := hv
  subst hsz
  have hD := hD0.self (sz := s.heap.size)
  generalize hAe : va_A (wRR G ad o (k, s0, s1, mp, md)) s.heap.size = A at hD hZ0 ⊢
  have hZ : Zs A s s.heap := hZ0
  have hA : ∀ q : Nat, s.heap.size ≤ q → A q := fun q h => by rw [← hAe]; exact Or.inr h
  have hS : va_S A s.heap s.heap [] := va_S.rf
  have hx := B.exec
  have hb := B.bytes
  have hr := B.returns
  have hts := atoms_spec (ws := wsX6_distinctSize) B.pre
  have hown : s.vm.findClass RX6 = some m.cls := findClass_of_methodNamed B.named
  have hlk := B.notSynchronized
  have CF : CallFix p m c cX6_distinctSize 2 s _ wsX6_distinctSize RX6 := ⟨hx, hb, hml, hown, hts⟩
  have hl := lv_entry ([.ref (ad o), .int st]) (n := 2) (Nat.le_of_ble_eq_true rfl)
  rw [lg_entry_eq]
  generalize (lg_sl ([.ref (ad o), .int st]) ++ List.replicate (2 - (lg_sl ([.ref (ad o), .int st])).length) Slot.unset).toArray = ls at hl ⊢
  have hl : lv_has ls 2 [(0, .ref (ad o)), (1, .int st)] := hl
  refine lv_iload_n hx hb dX6_distinctSize_0 rfl (lv_at hl 1 rfl) ?_
  refine lv_iconst (v := 0) hx hb dX6_distinctSize_1 (by decide) ?_
  refine lv_iconst (v := 2) hx hb dX6_distinctSize_2 (by decide) ?_
  by_cases q3_1 : okA st 0 2
  · refine rvS (w0 := []) (As := [.int st, .int 0, .int 2]) (rest := []) CF (k_X6_checkArgument l G st 0 2 q3_1) (va_cwS 3 hts gX6_distinctSize_X6_checkArgument rfl rfl rfl (by decide +kernel) ⟨Nat.le_of_ble_eq_true rfl, Nat.le_of_ble_eq_true rfl⟩) va_P_nil hY rfl hl.1 rfl (lv_room (Nat.le_of_ble_eq_true rfl)) dX6_distinctSize_3 ⟨Nat.zero_le _, Nat.zero_le _⟩ ?_
    exact absurd q3_1 hk
  · refine noS0 (As := [.int st, .int 0, .int 2]) (rest := []) CF (kn_X6_checkArgument l hl0 G st 0 2 q3_1) (va_cwS 3 hts gX6_distinctSize_X6_checkArgument rfl rfl rfl (by decide +kernel) ⟨Nat.le_of_ble_eq_true rfl, Nat.le_of_ble_eq_true rfl⟩) hP hD hS hA hY hZ rfl hl.1 rfl (lv_room (Nat.le_of_ble_eq_true rfl)) dX6_distinctSize_3 ⟨Nat.le_of_ble_eq_true rfl, Nat.le_of_ble_eq_true rfl⟩ (fun ce q9 H locs hP hD hS hce hcv hcl hgr => ?_)
    exact no_out ht hlk hce hcv hcl hgr hS hP (by first | with_reducible rfl | (simp only [rrMD, rrDis, rrDisM, sld_eq, q3_1, ↓reduceIte]; done))

set_option maxHeartbeats 4000000 in
set_option maxRecDepth 100000 in
theorem k_X6_distinctItem (l : Launch) (G : GT) (ad : Nat → Nat) (o : Nat) (sg : RRT) (st sl : Int32) (h0 : okA st 0 2) (hs : okP sl (rrDis sg st).2.1) : Wr l yX6_distinctItem wsX6_distinctItem { frames := 7, cells := 0, slots := 0, locals := 122 } G (wRR G ad o sg) (wRR G ad o (rrMD sg st)) [.ref (ad o), .int st, .int sl] (some (.int (at_ 16 (rrDis sg st).2.2.1 sl))) := by
  intro sz
  obtain ⟨k, s0, s1, mp, md⟩ := sg
  refine Met.ofW (cc := cX6_distinctItem) (maxL := 4) (ret := (some .int)) (by decide) rfl ?_
  intro p e s m args below meth c s₁ B hml hv
  obtain ⟨rfl, hsz, hP, hY, hD0⟩ := hv
  subst hsz
  have hD := hD0.self (sz := s.heap.size)
  generalize hAe : va_A (wRR G ad o (k, s0, s1, mp, md)) s.heap.size = A at hD ⊢
  have hA : ∀ q : Nat, s.heap.size ≤ q → A q := fun q h => by rw [← hAe]; exact Or.inr h
  have hS : va_S A s.heap s.heap [] := va_S.rf
  have hx := B.exec
  have hb := B.bytes
  have hr := B.returns
  have hts := atoms_spec (ws := wsX6_distinctItem) B.pre
  have hown : s.vm.findClass RX6 = some m.cls := findClass_of_methodNamed B.named
  have hlk := B.notSynchronized
  have CF : CallFix p m c cX6_distinctItem 4 s _ wsX6_distinctItem RX6 := ⟨hx, hb, hml, hown, hts⟩
  have hiX1 : ∀ w ∈ wsX10, w ∈ wsX6_distinctItem := fun w h => (List.mem_cons_of_mem _ (List.mem_append_left _ (List.mem_append_left _ (List.mem_append_left _ (List.mem_append_left _ (List.mem_append_right _ h))))))
  have hl := lv_entry ([.ref (ad o), .int st, .int sl]) (n := 4) (Nat.le_of_ble_eq_true rfl)
  rw [lg_entry_eq]
  generalize (lg_sl ([.ref (ad o), .int st, .int sl]) ++ List.replicate (4 - (lg_sl ([.ref (ad o), .int st, .int sl])).length) Slot.unset).toArray = ls at hl ⊢
  have hl : lv_has ls 4 [(0, .ref (ad o)), (1, .int st), (2, .int sl)] := hl
  refine lv_iload_n hx hb dX6_distinctItem_0 rfl (lv_at hl 1 rfl) ?_
  refine lv_iconst (v := 0) hx hb dX6_distinctItem_1 (by decide) ?_
  refine lv_iconst (v := 2) hx hb dX6_distinctItem_2 (by decide) ?_
  refine rvS (w0 := []) (As := [.int st, .int 0, .int 2]) (rest := []) CF (k_X6_checkArgument l G st 0 2 h0) (va_cwS 3 hts gX6_distinctItem_X6_checkArgument rfl rfl rfl (by decide +kernel) ⟨Nat.le_of_ble_eq_true rfl, Nat.le_of_ble_eq_true rfl⟩) va_P_nil hY rfl hl.1 rfl (lv_room (Nat.le_of_ble_eq_true rfl)) dX6_distinctItem_3 ⟨Nat.zero_le _, Nat.zero_le _⟩ ?_
  refine lv_aload_n hx hb dX6_distinctItem_6 rfl (lv_at hl 0 rfl) ?_
  refine lv_iload_n hx hb dX6_distinctItem_7 rfl (lv_at hl 1 rfl) ?_
  by_cases q8_1 : st = 2
  · refine wrV [] (wRR G ad o (k, s0, s1, mp, md)) [] (wRR G ad o (rrMD (k, s0, s1, mp, md) st)) (As := [.int st]) (rest := []) CF (k2_X6_distinctOf l G ad o (k, s0, s1, mp, md) st q8_1) (cwV 1 hts gX6_distinctItem_X6_distinctOf rfl rfl rfl (by decide +kernel) ⟨Nat.le_of_ble_eq_true rfl, Nat.le_of_ble_eq_true rfl⟩) hP hD hS hA hY rfl rfl (fst_RR _ _ _ _ _) rfl hl.1 rfl (lv_room (Nat.le_of_ble_eq_true rfl)) dX6_distinctItem_8 ⟨Nat.zero_le _, Nat.zero_le _⟩ (fun H locs hP hD hS => ?_)
    have hP : va_P G.1 vwCl (wRR G ad o (rrMD (k, s0, s1, mp, md) st)) H := hP
    have hD : va_D A (wRR G ad o (rrMD (k, s0, s1, mp, md) st)) := hD
    refine lv_astore_n (lv' := [(3, .ref (ad (o+68))), (0, .ref (ad o)), (1, .int st), (2, .int sl)]) hx hb dX6_distinctItem_11 rfl hl (by decide) rfl (fun ls hl => ?_)
    refine lv_iload_n hx hb dX6_distinctItem_12 rfl (lv_at hl 3 rfl) ?_
    refine lv_aload_n hx hb dX6_distinctItem_13 rfl (lv_at hl 0 rfl) ?_
    have hQ2 := va_P.subm (u := wDis G ad (o+68) ((rrMD (k, s0, s1, mp, md) st).2.2.2.2)) (fun q h => by simp only [wRR, List.mem_cons, List.mem_append, h, true_or, or_true]) hP
    refine va_getN (D := G.1) (ci := 1) (v := .int (((rrMD (k, s0, s1, mp, md) st).2.2.2.2).2.1)) (C := RX1) (T := TX1) (N := 4) hx hb hts hiX1 hown hY.1 hQ2 0 rfl rfl 3 (by decide) (va_Nw.use rfl (hY.2.1 (.fieldLinkNest RX6 126 RX1 "held" "I" RX6) (List.mem_of_getElem? (i := 1) rfl))) (fun _ h9 => h9) rfl dX6_distinctItem_14 ?_
    refine rvS (w0 := []) (As := [.int sl, .int (((rrMD (k, s0, s1, mp, md) st).2.2.2.2).2.1)]) (rest := []) CF (k_X6_checkPlace l G sl (((rrMD (k, s0, s1, mp, md) st).2.2.2.2).2.1) (by simpa only [rrMD, rrDis, rrDisM, eq_true q8_1, ↓reduceIte] using hs)) (va_cwS 2 hts gX6_distinctItem_X6_checkPlace rfl rfl rfl (by decide +kernel) ⟨Nat.le_of_ble_eq_true rfl, Nat.le_of_ble_eq_true rfl⟩) va_P_nil hY rfl hl.1 rfl (lv_room (Nat.le_of_ble_eq_true rfl)) dX6_distinctItem_17 ⟨Nat.zero_le _, Nat.zero_le _⟩ ?_
    refine lv_aload_n hx hb dX6_distinctItem_20 rfl (lv_at hl 0 rfl) ?_
    have hQ3 := va_P.subm (u := wDis G ad (o+68) ((rrMD (k, s0, s1, mp, md) st).2.2.2.2)) (fun q h => by simp only [wRR, List.mem_cons, List.mem_append, h, true_or, or_true]) hP
    refine va_getN (D := G.1) (ci := 1) (v := .ref (ad (o+68+1))) (C := RX1) (T := TX1) (N := 4) hx hb hts hiX1 hown hY.1 hQ3 0 rfl rfl 0 (by decide) (va_Nw.use rfl (hY.2.1 (.fieldLinkNest RX6 129 RX1 "items" "[I" RX6) (List.mem_of_getElem? (i := 2) rfl))) (fun _ h9 => h9) rfl dX6_distinctItem_21 ?_
    refine lv_iload_n hx hb dX6_distinctItem_24 rfl (lv_at hl 3 rfl) ?_
    have hQ4 := va_P.subm (u := wDis G ad (o+68) ((rrMD (k, s0, s1, mp, md) st).2.2.2.2)) (fun q h => by simp only [wRR, List.mem_cons, List.mem_append, h, true_or, or_true]) hP
    refine rdS (w0 := [(ad (o+68+1), .inl (G.2.1, 16, .inl (((rrMD (k, s0, s1, mp, md) st).2.2.2.2).2.2.1)))]) (As := [.ref (ad (o+68+1)), .int sl]) (rest := []) CF (k_X6_at l G 16 (ad (o+68+1)) (((rrMD (k, s0, s1, mp, md) st).2.2.2.2).2.2.1) sl (by decide)) (va_cwS 2 hts gX6_distinctItem_X6_at rfl rfl rfl (by decide +kernel) ⟨Nat.le_of_ble_eq_true rfl, Nat.le_of_ble_eq_true rfl⟩) (hQ4.sub (ws' := [(ad (o+68+1), .inl (G.2.1, 16, .inl (((rrMD (k, s0, s1, mp, md) st).2.2.2.2).2.2.1)))]) [1] rfl) hY rfl hl.1 rfl (lv_room (Nat.le_of_ble_eq_true rfl)) dX6_distinctItem_25 ⟨Nat.zero_le _, Nat.zero_le _⟩ ?_
    exact wr_iret hx hb hr hlk hS hP (by first | with_reducible rfl | (simp only [rrMD, rrDis, rrDisM, sld_eq, eq_true q8_1, ↓reduceIte]; done)) (by first | with_reducible rfl | (simp only [rrMD, rrDis, rrDisM, sld_eq, eq_true q8_1, ↓reduceIte]; done)) dX6_distinctItem_28
  · by_cases q8_5 : st = 0
    · refine rdV (w0 := (wRR G ad o (k, s0, s1, mp, md))) (As := [.int st]) (rest := []) CF (k0_X6_distinctOf l G ad o (k, s0, s1, mp, md) st q8_1 q8_5) (cwV 1 hts gX6_distinctItem_X6_distinctOf rfl rfl rfl (by decide +kernel) ⟨Nat.le_of_ble_eq_true rfl, Nat.le_of_ble_eq_true rfl⟩) hP hY rfl rfl rfl hl.1 rfl (lv_room (Nat.le_of_ble_eq_true rfl)) dX6_distinctItem_8 ⟨Nat.zero_le _, Nat.zero_le _⟩ ?_
      refine lv_astore_n (lv' := [(3, .ref (ad (o+1+25))), (0, .ref (ad o)), (1, .int st), (2, .int sl)]) hx hb dX6_distinctItem_11 rfl hl (by decide) rfl (fun ls hl => ?_)
      refine lv_iload_n hx hb dX6_distinctItem_12 rfl (lv_at hl 3 rfl) ?_
      refine lv_aload_n hx hb dX6_distinctItem_13 rfl (lv_at hl 0 rfl) ?_
      have hQ6 := va_P.subm (u := wDis G ad (o+1+25) s0.2.2.2.2.2.2.2.2.2.1) (fun q h => by simp only [wStr, wRR, List.mem_cons, List.mem_append, h, true_or, or_true]) hP
      refine va_getN (D := G.1) (ci := 1) (v := .int s0.2.2.2.2.2.2.2.2.2.1.2.1) (C := RX1) (T := TX1) (N := 4) hx hb hts hiX1 hown hY.1 hQ6 0 rfl rfl 3 (by decide) (va_Nw.use rfl (hY.2.1 (.fieldLinkNest RX6 126 RX1 "held" "I" RX6) (List.mem_of_getElem? (i := 1) rfl))) (fun _ h9 => h9) rfl dX6_distinctItem_14 ?_
      refine rvS (w0 := []) (As := [.int sl, .int s0.2.2.2.2.2.2.2.2.2.1.2.1]) (rest := []) CF (k_X6_checkPlace l G sl s0.2.2.2.2.2.2.2.2.2.1.2.1 (by simpa only [rrMD, rrDis, rrDisM, q8_1, eq_true q8_5, ↓reduceIte] using hs)) (va_cwS 2 hts gX6_distinctItem_X6_checkPlace rfl rfl rfl (by decide +kernel) ⟨Nat.le_of_ble_eq_true rfl, Nat.le_of_ble_eq_true rfl⟩) va_P_nil hY rfl hl.1 rfl (lv_room (Nat.le_of_ble_eq_true rfl)) dX6_distinctItem_17 ⟨Nat.zero_le _, Nat.zero_le _⟩ ?_
      refine lv_aload_n hx hb dX6_distinctItem_20 rfl (lv_at hl 0 rfl) ?_
      have hQ7 := va_P.subm (u := wDis G ad (o+1+25) s0.2.2.2.2.2.2.2.2.2.1) (fun q h => by simp only [wStr, wRR, List.mem_cons, List.mem_append, h, true_or, or_true]) hP
      refine va_getN (D := G.1) (ci := 1) (v := .ref (ad (o+1+25+1))) (C := RX1) (T := TX1) (N := 4) hx hb hts hiX1 hown hY.1 hQ7 0 rfl rfl 0 (by decide) (va_Nw.use rfl (hY.2.1 (.fieldLinkNest RX6 129 RX1 "items" "[I" RX6) (List.mem_of_getElem? (i := 2) rfl))) (fun _ h9 => h9) rfl dX6_distinctItem_21 ?_
      refine lv_iload_n hx hb dX6_distinctItem_24 rfl (lv_at hl 3 rfl) ?_
      have hQ8 := va_P.subm (u := wDis G ad (o+1+25) s0.2.2.2.2.2.2.2.2.2.1) (fun q h => by simp only [wStr, wRR, List.mem_cons, List.mem_append, h, true_or, or_true]) hP
      refine rdS (w0 := [(ad (o+1+25+1), .inl (G.2.1, 16, .inl s0.2.2.2.2.2.2.2.2.2.1.2.2.1))]) (As := [.ref (ad (o+1+25+1)), .int sl]) (rest := []) CF (k_X6_at l G 16 (ad (o+1+25+1)) s0.2.2.2.2.2.2.2.2.2.1.2.2.1 sl (by decide)) (va_cwS 2 hts gX6_distinctItem_X6_at rfl rfl rfl (by decide +kernel) ⟨Nat.le_of_ble_eq_true rfl, Nat.le_of_ble_eq_true rfl⟩) (hQ8.sub (ws' := [(ad (o+1+25+1), .inl (G.2.1, 16, .inl s0.2.2.2.2.2.2.2.2.2.1.2.2.1))]) [1] rfl) hY rfl hl.1 rfl (lv_room (Nat.le_of_ble_eq_true rfl)) dX6_distinctItem_25 ⟨Nat.zero_le _, Nat.zero_le _⟩ ?_
      exact wr_iret hx hb hr hlk hS hP (by first | with_reducible rfl | (simp only [rrMD, rrDis, rrDisM, sld_eq, q8_1, eq_true q8_5, ↓reduceIte]; done)) (by first | with_reducible rfl | (simp only [rrMD, rrDis, rrDisM, sld_eq, q8_1, eq_true q8_5, ↓reduceIte]; done)) dX6_distinctItem_28
    · refine rdV (w0 := (wRR G ad o (k, s0, s1, mp, md))) (As := [.int st]) (rest := []) CF (k1_X6_distinctOf l G ad o (k, s0, s1, mp, md) st q8_1 q8_5) (cwV 1 hts gX6_distinctItem_X6_distinctOf rfl rfl rfl (by decide +kernel) ⟨Nat.le_of_ble_eq_true rfl, Nat.le_of_ble_eq_true rfl⟩) hP hY rfl rfl rfl hl.1 rfl (lv_room (Nat.le_of_ble_eq_true rfl)) dX6_distinctItem_8 ⟨Nat.zero_le _, Nat.zero_le _⟩ ?_
      refine lv_astore_n (lv' := [(3, .ref (ad (o+32+25))), (0, .ref (ad o)), (1, .int st), (2, .int sl)]) hx hb dX6_distinctItem_11 rfl hl (by decide) rfl (fun ls hl => ?_)
      refine lv_iload_n hx hb dX6_distinctItem_12 rfl (lv_at hl 3 rfl) ?_
      refine lv_aload_n hx hb dX6_distinctItem_13 rfl (lv_at hl 0 rfl) ?_
      have hQ9 := va_P.subm (u := wDis G ad (o+32+25) s1.2.2.2.2.2.2.2.2.2.1) (fun q h => by simp only [wStr, wRR, List.mem_cons, List.mem_append, h, true_or, or_true]) hP
      refine va_getN (D := G.1) (ci := 1) (v := .int s1.2.2.2.2.2.2.2.2.2.1.2.1) (C := RX1) (T := TX1) (N := 4) hx hb hts hiX1 hown hY.1 hQ9 0 rfl rfl 3 (by decide) (va_Nw.use rfl (hY.2.1 (.fieldLinkNest RX6 126 RX1 "held" "I" RX6) (List.mem_of_getElem? (i := 1) rfl))) (fun _ h9 => h9) rfl dX6_distinctItem_14 ?_
      refine rvS (w0 := []) (As := [.int sl, .int s1.2.2.2.2.2.2.2.2.2.1.2.1]) (rest := []) CF (k_X6_checkPlace l G sl s1.2.2.2.2.2.2.2.2.2.1.2.1 (by simpa only [rrMD, rrDis, rrDisM, q8_1, q8_5, ↓reduceIte] using hs)) (va_cwS 2 hts gX6_distinctItem_X6_checkPlace rfl rfl rfl (by decide +kernel) ⟨Nat.le_of_ble_eq_true rfl, Nat.le_of_ble_eq_true rfl⟩) va_P_nil hY rfl hl.1 rfl (lv_room (Nat.le_of_ble_eq_true rfl)) dX6_distinctItem_17 ⟨Nat.zero_le _, Nat.zero_le _⟩ ?_
      refine lv_aload_n hx hb dX6_distinctItem_20 rfl (lv_at hl 0 rfl) ?_
      have hQ10 := va_P.subm (u := wDis G ad (o+32+25) s1.2.2.2.2.2.2.2.2.2.1) (fun q h => by simp only [wStr, wRR, List.mem_cons, List.mem_append, h, true_or, or_true]) hP
      refine va_getN (D := G.1) (ci := 1) (v := .ref (ad (o+32+25+1))) (C := RX1) (T := TX1) (N := 4) hx hb hts hiX1 hown hY.1 hQ10 0 rfl rfl 0 (by decide) (va_Nw.use rfl (hY.2.1 (.fieldLinkNest RX6 129 RX1 "items" "[I" RX6) (List.mem_of_getElem? (i := 2) rfl))) (fun _ h9 => h9) rfl dX6_distinctItem_21 ?_
      refine lv_iload_n hx hb dX6_distinctItem_24 rfl (lv_at hl 3 rfl) ?_
      have hQ11 := va_P.subm (u := wDis G ad (o+32+25) s1.2.2.2.2.2.2.2.2.2.1) (fun q h => by simp only [wStr, wRR, List.mem_cons, List.mem_append, h, true_or, or_true]) hP
      refine rdS (w0 := [(ad (o+32+25+1), .inl (G.2.1, 16, .inl s1.2.2.2.2.2.2.2.2.2.1.2.2.1))]) (As := [.ref (ad (o+32+25+1)), .int sl]) (rest := []) CF (k_X6_at l G 16 (ad (o+32+25+1)) s1.2.2.2.2.2.2.2.2.2.1.2.2.1 sl (by decide)) (va_cwS 2 hts gX6_distinctItem_X6_at rfl rfl rfl (by decide +kernel) ⟨Nat.le_of_ble_eq_true rfl, Nat.le_of_ble_eq_true rfl⟩) (hQ11.sub (ws' := [(ad (o+32+25+1), .inl (G.2.1, 16, .inl s1.2.2.2.2.2.2.2.2.2.1.2.2.1))]) [1] rfl) hY rfl hl.1 rfl (lv_room (Nat.le_of_ble_eq_true rfl)) dX6_distinctItem_25 ⟨Nat.zero_le _, Nat.zero_le _⟩ ?_
      exact wr_iret hx hb hr hlk hS hP (by first | with_reducible rfl | (simp only [rrMD, rrDis, rrDisM, sld_eq, q8_1, q8_5, ↓reduceIte]; done)) (by first | with_reducible rfl | (simp only [rrMD, rrDis, rrDisM, sld_eq, q8_1, q8_5, ↓reduceIte]; done)) dX6_distinctItem_28

set_option maxHeartbeats 4000000 in
set_option maxRecDepth 100000 in
theorem kn_X6_distinctItem (l : Launch) (hl0 : l.stackTraces = false) (G : GT) (ad : Nat → Nat) (o : Nat) (sg : RRT) (st sl : Int32) (hk : ¬ (okA st 0 2)) : No l yX6_distinctItem wsX6_distinctItem { frames := 7, cells := 1, slots := 6, locals := 122 } G (wRR G ad o sg) (wRR G ad o sg) [.ref (ad o), .int st, .int sl] "java/lang/IllegalArgumentException" := by
  intro sz
  obtain ⟨k, s0, s1, mp, md⟩ := sg
  refine vx_ofW (cc := cX6_distinctItem) (maxL := 4) (ret := (some .int)) (by decide) rfl ?_
  intro p e s m args below meth c s₁ B hml ht hv
  obtain ⟨rfl, hsz, hP, hY, hD0, hZ0⟩ := hv
  subst hsz
  have hD := hD0.self (sz := s.heap.size)
  generalize hAe : va_A (wRR G ad o (k, s0, s1, mp, md)) s.heap.size = A at hD hZ0 ⊢
  have hZ : Zs A s s.heap := hZ0
  have hA : ∀ q : Nat, s.heap.size ≤ q → A q := fun q h => by rw [← hAe]; exact Or.inr h
  have hS : va_S A s.heap s.heap [] := va_S.rf
  have hx := B.exec
  have hb := B.bytes
  have hr := B.returns
  have hts := atoms_spec (ws := wsX6_distinctItem) B.pre
  have hown : s.vm.findClass RX6 = some m.cls := findClass_of_methodNamed B.named
  have hlk := B.notSynchronized
  have CF : CallFix p m c cX6_distinctItem 4 s _ wsX6_distinctItem RX6 := ⟨hx, hb, hml, hown, hts⟩
  have hl := lv_entry ([.ref (ad o), .int st, .int sl]) (n := 4) (Nat.le_of_ble_eq_true rfl)
  rw [lg_entry_eq]
  generalize (lg_sl ([.ref (ad o), .int st, .int sl]) ++ List.replicate (4 - (lg_sl ([.ref (ad o), .int st, .int sl])).length) Slot.unset).toArray = ls at hl ⊢
  have hl : lv_has ls 4 [(0, .ref (ad o)), (1, .int st), (2, .int sl)] := hl
  refine lv_iload_n hx hb dX6_distinctItem_0 rfl (lv_at hl 1 rfl) ?_
  refine lv_iconst (v := 0) hx hb dX6_distinctItem_1 (by decide) ?_
  refine lv_iconst (v := 2) hx hb dX6_distinctItem_2 (by decide) ?_
  by_cases q3_1 : okA st 0 2
  · refine rvS (w0 := []) (As := [.int st, .int 0, .int 2]) (rest := []) CF (k_X6_checkArgument l G st 0 2 q3_1) (va_cwS 3 hts gX6_distinctItem_X6_checkArgument rfl rfl rfl (by decide +kernel) ⟨Nat.le_of_ble_eq_true rfl, Nat.le_of_ble_eq_true rfl⟩) va_P_nil hY rfl hl.1 rfl (lv_room (Nat.le_of_ble_eq_true rfl)) dX6_distinctItem_3 ⟨Nat.zero_le _, Nat.zero_le _⟩ ?_
    exact absurd q3_1 hk
  · refine noS0 (As := [.int st, .int 0, .int 2]) (rest := []) CF (kn_X6_checkArgument l hl0 G st 0 2 q3_1) (va_cwS 3 hts gX6_distinctItem_X6_checkArgument rfl rfl rfl (by decide +kernel) ⟨Nat.le_of_ble_eq_true rfl, Nat.le_of_ble_eq_true rfl⟩) hP hD hS hA hY hZ rfl hl.1 rfl (lv_room (Nat.le_of_ble_eq_true rfl)) dX6_distinctItem_3 ⟨Nat.le_of_ble_eq_true rfl, Nat.le_of_ble_eq_true rfl⟩ (fun ce q9 H locs hP hD hS hce hcv hcl hgr => ?_)
    exact no_out ht hlk hce hcv hcl hgr hS hP (by first | with_reducible rfl | (simp only [rrMD, rrDis, rrDisM, sld_eq, q3_1, ↓reduceIte]; done))

set_option maxHeartbeats 4000000 in
set_option maxRecDepth 100000 in
theorem kn2_X6_distinctItem (l : Launch) (hl0 : l.stackTraces = false) (G : GT) (ad : Nat → Nat) (o : Nat) (sg : RRT) (st sl : Int32) (h0 : okA st 0 2) (hs : ¬ okP sl (rrDis sg st).2.1) : No l yX6_distinctItem wsX6_distinctItem { frames := 7, cells := 1, slots := 6, locals := 122 } G (wRR G ad o sg) (wRR G ad o (rrMD sg st)) [.ref (ad o), .int st, .int sl] "java/lang/IndexOutOfBoundsException" := by
  intro sz
  obtain ⟨k, s0, s1, mp, md⟩ := sg
  refine vx_ofW (cc := cX6_distinctItem) (maxL := 4) (ret := (some .int)) (by decide) rfl ?_
  intro p e s m args below meth c s₁ B hml ht hv
  obtain ⟨rfl, hsz, hP, hY, hD0, hZ0⟩ := hv
  subst hsz
  have hD := hD0.self (sz := s.heap.size)
  generalize hAe : va_A (wRR G ad o (k, s0, s1, mp, md)) s.heap.size = A at hD hZ0 ⊢
  have hZ : Zs A s s.heap := hZ0
  have hA : ∀ q : Nat, s.heap.size ≤ q → A q := fun q h => by rw [← hAe]; exact Or.inr h
  have hS : va_S A s.heap s.heap [] := va_S.rf
  have hx := B.exec
  have hb := B.bytes
  have hr := B.returns
  have hts := atoms_spec (ws := wsX6_distinctItem) B.pre
  have hown : s.vm.findClass RX6 = some m.cls := findClass_of_methodNamed B.named
  have hlk := B.notSynchronized
  have CF : CallFix p m c cX6_distinctItem 4 s _ wsX6_distinctItem RX6 := ⟨hx, hb, hml, hown, hts⟩
  have hiX1 : ∀ w ∈ wsX10, w ∈ wsX6_distinctItem := fun w h => (List.mem_cons_of_mem _ (List.mem_append_left _ (List.mem_append_left _ (List.mem_append_left _ (List.mem_append_left _ (List.mem_append_right _ h))))))
  have hl := lv_entry ([.ref (ad o), .int st, .int sl]) (n := 4) (Nat.le_of_ble_eq_true rfl)
  rw [lg_entry_eq]
  generalize (lg_sl ([.ref (ad o), .int st, .int sl]) ++ List.replicate (4 - (lg_sl ([.ref (ad o), .int st, .int sl])).length) Slot.unset).toArray = ls at hl ⊢
  have hl : lv_has ls 4 [(0, .ref (ad o)), (1, .int st), (2, .int sl)] := hl
  refine lv_iload_n hx hb dX6_distinctItem_0 rfl (lv_at hl 1 rfl) ?_
  refine lv_iconst (v := 0) hx hb dX6_distinctItem_1 (by decide) ?_
  refine lv_iconst (v := 2) hx hb dX6_distinctItem_2 (by decide) ?_
  refine rvS (w0 := []) (As := [.int st, .int 0, .int 2]) (rest := []) CF (k_X6_checkArgument l G st 0 2 h0) (va_cwS 3 hts gX6_distinctItem_X6_checkArgument rfl rfl rfl (by decide +kernel) ⟨Nat.le_of_ble_eq_true rfl, Nat.le_of_ble_eq_true rfl⟩) va_P_nil hY rfl hl.1 rfl (lv_room (Nat.le_of_ble_eq_true rfl)) dX6_distinctItem_3 ⟨Nat.zero_le _, Nat.zero_le _⟩ ?_
  refine lv_aload_n hx hb dX6_distinctItem_6 rfl (lv_at hl 0 rfl) ?_
  refine lv_iload_n hx hb dX6_distinctItem_7 rfl (lv_at hl 1 rfl) ?_
  by_cases q8_1 : st = 2
  · refine wrV [] (wRR G ad o (k, s0, s1, mp, md)) [] (wRR G ad o (rrMD (k, s0, s1, mp, md) st)) (As := [.int st]) (rest := []) CF (k2_X6_distinctOf l G ad o (k, s0, s1, mp, md) st q8_1) (cwV 1 hts gX6_distinctItem_X6_distinctOf rfl rfl rfl (by decide +kernel) ⟨Nat.le_of_ble_eq_true rfl, Nat.le_of_ble_eq_true rfl⟩) hP hD hS hA hY rfl rfl (fst_RR _ _ _ _ _) rfl hl.1 rfl (lv_room (Nat.le_of_ble_eq_true rfl)) dX6_distinctItem_8 ⟨Nat.zero_le _, Nat.zero_le _⟩ (fun H locs hP hD hS => ?_)
    have hP : va_P G.1 vwCl (wRR G ad o (rrMD (k, s0, s1, mp, md) st)) H := hP
    have hD : va_D A (wRR G ad o (rrMD (k, s0, s1, mp, md) st)) := hD
    refine lv_astore_n (lv' := [(3, .ref (ad (o+68))), (0, .ref (ad o)), (1, .int st), (2, .int sl)]) hx hb dX6_distinctItem_11 rfl hl (by decide) rfl (fun ls hl => ?_)
    refine lv_iload_n hx hb dX6_distinctItem_12 rfl (lv_at hl 3 rfl) ?_
    refine lv_aload_n hx hb dX6_distinctItem_13 rfl (lv_at hl 0 rfl) ?_
    have hQ2 := va_P.subm (u := wDis G ad (o+68) ((rrMD (k, s0, s1, mp, md) st).2.2.2.2)) (fun q h => by simp only [wRR, List.mem_cons, List.mem_append, h, true_or, or_true]) hP
    refine va_getN (D := G.1) (ci := 1) (v := .int (((rrMD (k, s0, s1, mp, md) st).2.2.2.2).2.1)) (C := RX1) (T := TX1) (N := 4) hx hb hts hiX1 hown hY.1 hQ2 0 rfl rfl 3 (by decide) (va_Nw.use rfl (hY.2.1 (.fieldLinkNest RX6 126 RX1 "held" "I" RX6) (List.mem_of_getElem? (i := 1) rfl))) (fun _ h9 => h9) rfl dX6_distinctItem_14 ?_
    refine noS0 (As := [.int sl, .int (((rrMD (k, s0, s1, mp, md) st).2.2.2.2).2.1)]) (rest := []) CF (kn_X6_checkPlace l hl0 G sl (((rrMD (k, s0, s1, mp, md) st).2.2.2.2).2.1) (by simpa only [rrMD, rrDis, rrDisM, eq_true q8_1, ↓reduceIte] using hs)) (va_cwS 2 hts gX6_distinctItem_X6_checkPlace rfl rfl rfl (by decide +kernel) ⟨Nat.le_of_ble_eq_true rfl, Nat.le_of_ble_eq_true rfl⟩) hP hD hS hA hY hZ rfl hl.1 rfl (lv_room (Nat.le_of_ble_eq_true rfl)) dX6_distinctItem_17 ⟨Nat.le_of_ble_eq_true rfl, Nat.le_of_ble_eq_true rfl⟩ (fun ce q9 H locs hP hD hS hce hcv hcl hgr => ?_)
    exact no_out ht hlk hce hcv hcl hgr hS hP (by first | with_reducible rfl | (simp only [rrMD, rrDis, rrDisM, sld_eq, eq_true q8_1, ↓reduceIte]; done))
  · by_cases q8_3 : st = 0
    · refine rdV (w0 := (wRR G ad o (k, s0, s1, mp, md))) (As := [.int st]) (rest := []) CF (k0_X6_distinctOf l G ad o (k, s0, s1, mp, md) st q8_1 q8_3) (cwV 1 hts gX6_distinctItem_X6_distinctOf rfl rfl rfl (by decide +kernel) ⟨Nat.le_of_ble_eq_true rfl, Nat.le_of_ble_eq_true rfl⟩) hP hY rfl rfl rfl hl.1 rfl (lv_room (Nat.le_of_ble_eq_true rfl)) dX6_distinctItem_8 ⟨Nat.zero_le _, Nat.zero_le _⟩ ?_
      refine lv_astore_n (lv' := [(3, .ref (ad (o+1+25))), (0, .ref (ad o)), (1, .int st), (2, .int sl)]) hx hb dX6_distinctItem_11 rfl hl (by decide) rfl (fun ls hl => ?_)
      refine lv_iload_n hx hb dX6_distinctItem_12 rfl (lv_at hl 3 rfl) ?_
      refine lv_aload_n hx hb dX6_distinctItem_13 rfl (lv_at hl 0 rfl) ?_
      have hQ4 := va_P.subm (u := wDis G ad (o+1+25) s0.2.2.2.2.2.2.2.2.2.1) (fun q h => by simp only [wStr, wRR, List.mem_cons, List.mem_append, h, true_or, or_true]) hP
      refine va_getN (D := G.1) (ci := 1) (v := .int s0.2.2.2.2.2.2.2.2.2.1.2.1) (C := RX1) (T := TX1) (N := 4) hx hb hts hiX1 hown hY.1 hQ4 0 rfl rfl 3 (by decide) (va_Nw.use rfl (hY.2.1 (.fieldLinkNest RX6 126 RX1 "held" "I" RX6) (List.mem_of_getElem? (i := 1) rfl))) (fun _ h9 => h9) rfl dX6_distinctItem_14 ?_
      refine noS0 (As := [.int sl, .int s0.2.2.2.2.2.2.2.2.2.1.2.1]) (rest := []) CF (kn_X6_checkPlace l hl0 G sl s0.2.2.2.2.2.2.2.2.2.1.2.1 (by simpa only [rrMD, rrDis, rrDisM, q8_1, eq_true q8_3, ↓reduceIte] using hs)) (va_cwS 2 hts gX6_distinctItem_X6_checkPlace rfl rfl rfl (by decide +kernel) ⟨Nat.le_of_ble_eq_true rfl, Nat.le_of_ble_eq_true rfl⟩) hP hD hS hA hY hZ rfl hl.1 rfl (lv_room (Nat.le_of_ble_eq_true rfl)) dX6_distinctItem_17 ⟨Nat.le_of_ble_eq_true rfl, Nat.le_of_ble_eq_true rfl⟩ (fun ce q9 H locs hP hD hS hce hcv hcl hgr => ?_)
      exact no_out ht hlk hce hcv hcl hgr hS hP (by first | with_reducible rfl | (simp only [rrMD, rrDis, rrDisM, sld_eq, q8_1, eq_true q8_3, ↓reduceIte]; done))
    · refine rdV (w0 := (wRR G ad o (k, s0, s1, mp, md))) (As := [.int st]) (rest := []) CF (k1_X6_distinctOf l G ad o (k, s0, s1, mp, md) st q8_1 q8_3) (cwV 1 hts gX6_distinctItem_X6_distinctOf rfl rfl rfl (by decide +kernel) ⟨Nat.le_of_ble_eq_true rfl, Nat.le_of_ble_eq_true rfl⟩) hP hY rfl rfl rfl hl.1 rfl (lv_room (Nat.le_of_ble_eq_true rfl)) dX6_distinctItem_8 ⟨Nat.zero_le _, Nat.zero_le _⟩ ?_
      refine lv_astore_n (lv' := [(3, .ref (ad (o+32+25))), (0, .ref (ad o)), (1, .int st), (2, .int sl)]) hx hb dX6_distinctItem_11 rfl hl (by decide) rfl (fun ls hl => ?_)
      refine lv_iload_n hx hb dX6_distinctItem_12 rfl (lv_at hl 3 rfl) ?_
      refine lv_aload_n hx hb dX6_distinctItem_13 rfl (lv_at hl 0 rfl) ?_
      have hQ5 := va_P.subm (u := wDis G ad (o+32+25) s1.2.2.2.2.2.2.2.2.2.1) (fun q h => by simp only [wStr, wRR, List.mem_cons, List.mem_append, h, true_or, or_true]) hP
      refine va_getN (D := G.1) (ci := 1) (v := .int s1.2.2.2.2.2.2.2.2.2.1.2.1) (C := RX1) (T := TX1) (N := 4) hx hb hts hiX1 hown hY.1 hQ5 0 rfl rfl 3 (by decide) (va_Nw.use rfl (hY.2.1 (.fieldLinkNest RX6 126 RX1 "held" "I" RX6) (List.mem_of_getElem? (i := 1) rfl))) (fun _ h9 => h9) rfl dX6_distinctItem_14 ?_
      refine noS0 (As := [.int sl, .int s1.2.2.2.2.2.2.2.2.2.1.2.1]) (rest := []) CF (kn_X6_checkPlace l hl0 G sl s1.2.2.2.2.2.2.2.2.2.1.2.1 (by simpa only [rrMD, rrDis, rrDisM, q8_1, q8_3, ↓reduceIte] using hs)) (va_cwS 2 hts gX6_distinctItem_X6_checkPlace rfl rfl rfl (by decide +kernel) ⟨Nat.le_of_ble_eq_true rfl, Nat.le_of_ble_eq_true rfl⟩) hP hD hS hA hY hZ rfl hl.1 rfl (lv_room (Nat.le_of_ble_eq_true rfl)) dX6_distinctItem_17 ⟨Nat.le_of_ble_eq_true rfl, Nat.le_of_ble_eq_true rfl⟩ (fun ce q9 H locs hP hD hS hce hcv hcl hgr => ?_)
      exact no_out ht hlk hce hcv hcl hgr hS hP (by first | with_reducible rfl | (simp only [rrMD, rrDis, rrDisM, sld_eq, q8_1, q8_3, ↓reduceIte]; done))

set_option maxHeartbeats 4000000 in
set_option maxRecDepth 100000 in
theorem k_X6_distinctOffers (l : Launch) (G : GT) (ad : Nat → Nat) (o : Nat) (sg : RRT) (st sl : Int32) (h0 : okA st 0 2) (hs : okP sl (rrDis sg st).2.1) : Wr l yX6_distinctOffers wsX6_distinctOffers { frames := 7, cells := 0, slots := 0, locals := 122 } G (wRR G ad o sg) (wRR G ad o (rrMD sg st)) [.ref (ad o), .int st, .int sl] (some (.int (at_ 16 (rrDis sg st).2.2.2 sl))) := by
  intro sz
  obtain ⟨k, s0, s1, mp, md⟩ := sg
  refine Met.ofW (cc := cX6_distinctOffers) (maxL := 4) (ret := (some .int)) (by decide) rfl ?_
  intro p e s m args below meth c s₁ B hml hv
  obtain ⟨rfl, hsz, hP, hY, hD0⟩ := hv
  subst hsz
  have hD := hD0.self (sz := s.heap.size)
  generalize hAe : va_A (wRR G ad o (k, s0, s1, mp, md)) s.heap.size = A at hD ⊢
  have hA : ∀ q : Nat, s.heap.size ≤ q → A q := fun q h => by rw [← hAe]; exact Or.inr h
  have hS : va_S A s.heap s.heap [] := va_S.rf
  have hx := B.exec
  have hb := B.bytes
  have hr := B.returns
  have hts := atoms_spec (ws := wsX6_distinctOffers) B.pre
  have hown : s.vm.findClass RX6 = some m.cls := findClass_of_methodNamed B.named
  have hlk := B.notSynchronized
  have CF : CallFix p m c cX6_distinctOffers 4 s _ wsX6_distinctOffers RX6 := ⟨hx, hb, hml, hown, hts⟩
  have hiX1 : ∀ w ∈ wsX10, w ∈ wsX6_distinctOffers := fun w h => (List.mem_cons_of_mem _ (List.mem_append_left _ (List.mem_append_left _ (List.mem_append_left _ (List.mem_append_left _ (List.mem_append_right _ h))))))
  have hl := lv_entry ([.ref (ad o), .int st, .int sl]) (n := 4) (Nat.le_of_ble_eq_true rfl)
  rw [lg_entry_eq]
  generalize (lg_sl ([.ref (ad o), .int st, .int sl]) ++ List.replicate (4 - (lg_sl ([.ref (ad o), .int st, .int sl])).length) Slot.unset).toArray = ls at hl ⊢
  have hl : lv_has ls 4 [(0, .ref (ad o)), (1, .int st), (2, .int sl)] := hl
  refine lv_iload_n hx hb dX6_distinctOffers_0 rfl (lv_at hl 1 rfl) ?_
  refine lv_iconst (v := 0) hx hb dX6_distinctOffers_1 (by decide) ?_
  refine lv_iconst (v := 2) hx hb dX6_distinctOffers_2 (by decide) ?_
  refine rvS (w0 := []) (As := [.int st, .int 0, .int 2]) (rest := []) CF (k_X6_checkArgument l G st 0 2 h0) (va_cwS 3 hts gX6_distinctOffers_X6_checkArgument rfl rfl rfl (by decide +kernel) ⟨Nat.le_of_ble_eq_true rfl, Nat.le_of_ble_eq_true rfl⟩) va_P_nil hY rfl hl.1 rfl (lv_room (Nat.le_of_ble_eq_true rfl)) dX6_distinctOffers_3 ⟨Nat.zero_le _, Nat.zero_le _⟩ ?_
  refine lv_aload_n hx hb dX6_distinctOffers_6 rfl (lv_at hl 0 rfl) ?_
  refine lv_iload_n hx hb dX6_distinctOffers_7 rfl (lv_at hl 1 rfl) ?_
  by_cases q8_1 : st = 2
  · refine wrV [] (wRR G ad o (k, s0, s1, mp, md)) [] (wRR G ad o (rrMD (k, s0, s1, mp, md) st)) (As := [.int st]) (rest := []) CF (k2_X6_distinctOf l G ad o (k, s0, s1, mp, md) st q8_1) (cwV 1 hts gX6_distinctOffers_X6_distinctOf rfl rfl rfl (by decide +kernel) ⟨Nat.le_of_ble_eq_true rfl, Nat.le_of_ble_eq_true rfl⟩) hP hD hS hA hY rfl rfl (fst_RR _ _ _ _ _) rfl hl.1 rfl (lv_room (Nat.le_of_ble_eq_true rfl)) dX6_distinctOffers_8 ⟨Nat.zero_le _, Nat.zero_le _⟩ (fun H locs hP hD hS => ?_)
    have hP : va_P G.1 vwCl (wRR G ad o (rrMD (k, s0, s1, mp, md) st)) H := hP
    have hD : va_D A (wRR G ad o (rrMD (k, s0, s1, mp, md) st)) := hD
    refine lv_astore_n (lv' := [(3, .ref (ad (o+68))), (0, .ref (ad o)), (1, .int st), (2, .int sl)]) hx hb dX6_distinctOffers_11 rfl hl (by decide) rfl (fun ls hl => ?_)
    refine lv_iload_n hx hb dX6_distinctOffers_12 rfl (lv_at hl 3 rfl) ?_
    refine lv_aload_n hx hb dX6_distinctOffers_13 rfl (lv_at hl 0 rfl) ?_
    have hQ2 := va_P.subm (u := wDis G ad (o+68) ((rrMD (k, s0, s1, mp, md) st).2.2.2.2)) (fun q h => by simp only [wRR, List.mem_cons, List.mem_append, h, true_or, or_true]) hP
    refine va_getN (D := G.1) (ci := 1) (v := .int (((rrMD (k, s0, s1, mp, md) st).2.2.2.2).2.1)) (C := RX1) (T := TX1) (N := 4) hx hb hts hiX1 hown hY.1 hQ2 0 rfl rfl 3 (by decide) (va_Nw.use rfl (hY.2.1 (.fieldLinkNest RX6 126 RX1 "held" "I" RX6) (List.mem_of_getElem? (i := 1) rfl))) (fun _ h9 => h9) rfl dX6_distinctOffers_14 ?_
    refine rvS (w0 := []) (As := [.int sl, .int (((rrMD (k, s0, s1, mp, md) st).2.2.2.2).2.1)]) (rest := []) CF (k_X6_checkPlace l G sl (((rrMD (k, s0, s1, mp, md) st).2.2.2.2).2.1) (by simpa only [rrMD, rrDis, rrDisM, eq_true q8_1, ↓reduceIte] using hs)) (va_cwS 2 hts gX6_distinctOffers_X6_checkPlace rfl rfl rfl (by decide +kernel) ⟨Nat.le_of_ble_eq_true rfl, Nat.le_of_ble_eq_true rfl⟩) va_P_nil hY rfl hl.1 rfl (lv_room (Nat.le_of_ble_eq_true rfl)) dX6_distinctOffers_17 ⟨Nat.zero_le _, Nat.zero_le _⟩ ?_
    refine lv_aload_n hx hb dX6_distinctOffers_20 rfl (lv_at hl 0 rfl) ?_
    have hQ3 := va_P.subm (u := wDis G ad (o+68) ((rrMD (k, s0, s1, mp, md) st).2.2.2.2)) (fun q h => by simp only [wRR, List.mem_cons, List.mem_append, h, true_or, or_true]) hP
    refine va_getN (D := G.1) (ci := 1) (v := .ref (ad (o+68+2))) (C := RX1) (T := TX1) (N := 4) hx hb hts hiX1 hown hY.1 hQ3 0 rfl rfl 1 (by decide) (va_Nw.use rfl (hY.2.1 (.fieldLinkNest RX6 130 RX1 "times" "[I" RX6) (List.mem_of_getElem? (i := 3) rfl))) (fun _ h9 => h9) rfl dX6_distinctOffers_21 ?_
    refine lv_iload_n hx hb dX6_distinctOffers_24 rfl (lv_at hl 3 rfl) ?_
    have hQ4 := va_P.subm (u := wDis G ad (o+68) ((rrMD (k, s0, s1, mp, md) st).2.2.2.2)) (fun q h => by simp only [wRR, List.mem_cons, List.mem_append, h, true_or, or_true]) hP
    refine rdS (w0 := [(ad (o+68+2), .inl (G.2.1, 16, .inl (((rrMD (k, s0, s1, mp, md) st).2.2.2.2).2.2.2)))]) (As := [.ref (ad (o+68+2)), .int sl]) (rest := []) CF (k_X6_at l G 16 (ad (o+68+2)) (((rrMD (k, s0, s1, mp, md) st).2.2.2.2).2.2.2) sl (by decide)) (va_cwS 2 hts gX6_distinctOffers_X6_at rfl rfl rfl (by decide +kernel) ⟨Nat.le_of_ble_eq_true rfl, Nat.le_of_ble_eq_true rfl⟩) (hQ4.sub (ws' := [(ad (o+68+2), .inl (G.2.1, 16, .inl (((rrMD (k, s0, s1, mp, md) st).2.2.2.2).2.2.2)))]) [2] rfl) hY rfl hl.1 rfl (lv_room (Nat.le_of_ble_eq_true rfl)) dX6_distinctOffers_25 ⟨Nat.zero_le _, Nat.zero_le _⟩ ?_
    exact wr_iret hx hb hr hlk hS hP (by first | with_reducible rfl | (simp only [rrMD, rrDis, rrDisM, sld_eq, eq_true q8_1, ↓reduceIte]; done)) (by first | with_reducible rfl | (simp only [rrMD, rrDis, rrDisM, sld_eq, eq_true q8_1, ↓reduceIte]; done)) dX6_distinctOffers_28
  · by_cases q8_5 : st = 0
    · refine rdV (w0 := (wRR G ad o (k, s0, s1, mp, md))) (As := [.int st]) (rest := []) CF (k0_X6_distinctOf l G ad o (k, s0, s1, mp, md) st q8_1 q8_5) (cwV 1 hts gX6_distinctOffers_X6_distinctOf rfl rfl rfl (by decide +kernel) ⟨Nat.le_of_ble_eq_true rfl, Nat.le_of_ble_eq_true rfl⟩) hP hY rfl rfl rfl hl.1 rfl (lv_room (Nat.le_of_ble_eq_true rfl)) dX6_distinctOffers_8 ⟨Nat.zero_le _, Nat.zero_le _⟩ ?_
      refine lv_astore_n (lv' := [(3, .ref (ad (o+1+25))), (0, .ref (ad o)), (1, .int st), (2, .int sl)]) hx hb dX6_distinctOffers_11 rfl hl (by decide) rfl (fun ls hl => ?_)
      refine lv_iload_n hx hb dX6_distinctOffers_12 rfl (lv_at hl 3 rfl) ?_
      refine lv_aload_n hx hb dX6_distinctOffers_13 rfl (lv_at hl 0 rfl) ?_
      have hQ6 := va_P.subm (u := wDis G ad (o+1+25) s0.2.2.2.2.2.2.2.2.2.1) (fun q h => by simp only [wStr, wRR, List.mem_cons, List.mem_append, h, true_or, or_true]) hP
      refine va_getN (D := G.1) (ci := 1) (v := .int s0.2.2.2.2.2.2.2.2.2.1.2.1) (C := RX1) (T := TX1) (N := 4) hx hb hts hiX1 hown hY.1 hQ6 0 rfl rfl 3 (by decide) (va_Nw.use rfl (hY.2.1 (.fieldLinkNest RX6 126 RX1 "held" "I" RX6) (List.mem_of_getElem? (i := 1) rfl))) (fun _ h9 => h9) rfl dX6_distinctOffers_14 ?_
      refine rvS (w0 := []) (As := [.int sl, .int s0.2.2.2.2.2.2.2.2.2.1.2.1]) (rest := []) CF (k_X6_checkPlace l G sl s0.2.2.2.2.2.2.2.2.2.1.2.1 (by simpa only [rrMD, rrDis, rrDisM, q8_1, eq_true q8_5, ↓reduceIte] using hs)) (va_cwS 2 hts gX6_distinctOffers_X6_checkPlace rfl rfl rfl (by decide +kernel) ⟨Nat.le_of_ble_eq_true rfl, Nat.le_of_ble_eq_true rfl⟩) va_P_nil hY rfl hl.1 rfl (lv_room (Nat.le_of_ble_eq_true rfl)) dX6_distinctOffers_17 ⟨Nat.zero_le _, Nat.zero_le _⟩ ?_
      refine lv_aload_n hx hb dX6_distinctOffers_20 rfl (lv_at hl 0 rfl) ?_
      have hQ7 := va_P.subm (u := wDis G ad (o+1+25) s0.2.2.2.2.2.2.2.2.2.1) (fun q h => by simp only [wStr, wRR, List.mem_cons, List.mem_append, h, true_or, or_true]) hP
      refine va_getN (D := G.1) (ci := 1) (v := .ref (ad (o+1+25+2))) (C := RX1) (T := TX1) (N := 4) hx hb hts hiX1 hown hY.1 hQ7 0 rfl rfl 1 (by decide) (va_Nw.use rfl (hY.2.1 (.fieldLinkNest RX6 130 RX1 "times" "[I" RX6) (List.mem_of_getElem? (i := 3) rfl))) (fun _ h9 => h9) rfl dX6_distinctOffers_21 ?_
      refine lv_iload_n hx hb dX6_distinctOffers_24 rfl (lv_at hl 3 rfl) ?_
      have hQ8 := va_P.subm (u := wDis G ad (o+1+25) s0.2.2.2.2.2.2.2.2.2.1) (fun q h => by simp only [wStr, wRR, List.mem_cons, List.mem_append, h, true_or, or_true]) hP
      refine rdS (w0 := [(ad (o+1+25+2), .inl (G.2.1, 16, .inl s0.2.2.2.2.2.2.2.2.2.1.2.2.2))]) (As := [.ref (ad (o+1+25+2)), .int sl]) (rest := []) CF (k_X6_at l G 16 (ad (o+1+25+2)) s0.2.2.2.2.2.2.2.2.2.1.2.2.2 sl (by decide)) (va_cwS 2 hts gX6_distinctOffers_X6_at rfl rfl rfl (by decide +kernel) ⟨Nat.le_of_ble_eq_true rfl, Nat.le_of_ble_eq_true rfl⟩) (hQ8.sub (ws' := [(ad (o+1+25+2), .inl (G.2.1, 16, .inl s0.2.2.2.2.2.2.2.2.2.1.2.2.2))]) [2] rfl) hY rfl hl.1 rfl (lv_room (Nat.le_of_ble_eq_true rfl)) dX6_distinctOffers_25 ⟨Nat.zero_le _, Nat.zero_le _⟩ ?_
      exact wr_iret hx hb hr hlk hS hP (by first | with_reducible rfl | (simp only [rrMD, rrDis, rrDisM, sld_eq, q8_1, eq_true q8_5, ↓reduceIte]; done)) (by first | with_reducible rfl | (simp only [rrMD, rrDis, rrDisM, sld_eq, q8_1, eq_true q8_5, ↓reduceIte]; done)) dX6_distinctOffers_28
    · refine rdV (w0 := (wRR G ad o (k, s0, s1, mp, md))) (As := [.int st]) (rest := []) CF (k1_X6_distinctOf l G ad o (k, s0, s1, mp, md) st q8_1 q8_5) (cwV 1 hts gX6_distinctOffers_X6_distinctOf rfl rfl rfl (by decide +kernel) ⟨Nat.le_of_ble_eq_true rfl, Nat.le_of_ble_eq_true rfl⟩) hP hY rfl rfl rfl hl.1 rfl (lv_room (Nat.le_of_ble_eq_true rfl)) dX6_distinctOffers_8 ⟨Nat.zero_le _, Nat.zero_le _⟩ ?_
      refine lv_astore_n (lv' := [(3, .ref (ad (o+32+25))), (0, .ref (ad o)), (1, .int st), (2, .int sl)]) hx hb dX6_distinctOffers_11 rfl hl (by decide) rfl (fun ls hl => ?_)
      refine lv_iload_n hx hb dX6_distinctOffers_12 rfl (lv_at hl 3 rfl) ?_
      refine lv_aload_n hx hb dX6_distinctOffers_13 rfl (lv_at hl 0 rfl) ?_
      have hQ9 := va_P.subm (u := wDis G ad (o+32+25) s1.2.2.2.2.2.2.2.2.2.1) (fun q h => by simp only [wStr, wRR, List.mem_cons, List.mem_append, h, true_or, or_true]) hP
      refine va_getN (D := G.1) (ci := 1) (v := .int s1.2.2.2.2.2.2.2.2.2.1.2.1) (C := RX1) (T := TX1) (N := 4) hx hb hts hiX1 hown hY.1 hQ9 0 rfl rfl 3 (by decide) (va_Nw.use rfl (hY.2.1 (.fieldLinkNest RX6 126 RX1 "held" "I" RX6) (List.mem_of_getElem? (i := 1) rfl))) (fun _ h9 => h9) rfl dX6_distinctOffers_14 ?_
      refine rvS (w0 := []) (As := [.int sl, .int s1.2.2.2.2.2.2.2.2.2.1.2.1]) (rest := []) CF (k_X6_checkPlace l G sl s1.2.2.2.2.2.2.2.2.2.1.2.1 (by simpa only [rrMD, rrDis, rrDisM, q8_1, q8_5, ↓reduceIte] using hs)) (va_cwS 2 hts gX6_distinctOffers_X6_checkPlace rfl rfl rfl (by decide +kernel) ⟨Nat.le_of_ble_eq_true rfl, Nat.le_of_ble_eq_true rfl⟩) va_P_nil hY rfl hl.1 rfl (lv_room (Nat.le_of_ble_eq_true rfl)) dX6_distinctOffers_17 ⟨Nat.zero_le _, Nat.zero_le _⟩ ?_
      refine lv_aload_n hx hb dX6_distinctOffers_20 rfl (lv_at hl 0 rfl) ?_
      have hQ10 := va_P.subm (u := wDis G ad (o+32+25) s1.2.2.2.2.2.2.2.2.2.1) (fun q h => by simp only [wStr, wRR, List.mem_cons, List.mem_append, h, true_or, or_true]) hP
      refine va_getN (D := G.1) (ci := 1) (v := .ref (ad (o+32+25+2))) (C := RX1) (T := TX1) (N := 4) hx hb hts hiX1 hown hY.1 hQ10 0 rfl rfl 1 (by decide) (va_Nw.use rfl (hY.2.1 (.fieldLinkNest RX6 130 RX1 "times" "[I" RX6) (List.mem_of_getElem? (i := 3) rfl))) (fun _ h9 => h9) rfl dX6_distinctOffers_21 ?_
      refine lv_iload_n hx hb dX6_distinctOffers_24 rfl (lv_at hl 3 rfl) ?_
      have hQ11 := va_P.subm (u := wDis G ad (o+32+25) s1.2.2.2.2.2.2.2.2.2.1) (fun q h => by simp only [wStr, wRR, List.mem_cons, List.mem_append, h, true_or, or_true]) hP
      refine rdS (w0 := [(ad (o+32+25+2), .inl (G.2.1, 16, .inl s1.2.2.2.2.2.2.2.2.2.1.2.2.2))]) (As := [.ref (ad (o+32+25+2)), .int sl]) (rest := []) CF (k_X6_at l G 16 (ad (o+32+25+2)) s1.2.2.2.2.2.2.2.2.2.1.2.2.2 sl (by decide)) (va_cwS 2 hts gX6_distinctOffers_X6_at rfl rfl rfl (by decide +kernel) ⟨Nat.le_of_ble_eq_true rfl, Nat.le_of_ble_eq_true rfl⟩) (hQ11.sub (ws' := [(ad (o+32+25+2), .inl (G.2.1, 16, .inl s1.2.2.2.2.2.2.2.2.2.1.2.2.2))]) [2] rfl) hY rfl hl.1 rfl (lv_room (Nat.le_of_ble_eq_true rfl)) dX6_distinctOffers_25 ⟨Nat.zero_le _, Nat.zero_le _⟩ ?_
      exact wr_iret hx hb hr hlk hS hP (by first | with_reducible rfl | (simp only [rrMD, rrDis, rrDisM, sld_eq, q8_1, q8_5, ↓reduceIte]; done)) (by first | with_reducible rfl | (simp only [rrMD, rrDis, rrDisM, sld_eq, q8_1, q8_5, ↓reduceIte]; done)) dX6_distinctOffers_28

set_option maxHeartbeats 4000000 in
set_option maxRecDepth 100000 in
theorem kn_X6_distinctOffers (l : Launch) (hl0 : l.stackTraces = false) (G : GT) (ad : Nat → Nat) (o : Nat) (sg : RRT) (st sl : Int32) (hk : ¬ (okA st 0 2)) : No l yX6_distinctOffers wsX6_distinctOffers { frames := 7, cells := 1, slots := 6, locals := 122 } G (wRR G ad o sg) (wRR G ad o sg) [.ref (ad o), .int st, .int sl] "java/lang/IllegalArgumentException" := by
  intro sz
  obtain ⟨k, s0, s1, mp, md⟩ := sg
  refine vx_ofW (cc := cX6_distinctOffers) (maxL := 4) (ret := (some .int)) (by decide) rfl ?_
  intro p e s m args below meth c s₁ B hml ht hv
  obtain ⟨rfl, hsz, hP, hY, hD0, hZ0⟩ := hv
  subst hsz
  have hD := hD0.self (sz := s.heap.size)
  generalize hAe : va_A (wRR G ad o (k, s0, s1, mp, md)) s.heap.size = A at hD hZ0 ⊢
  have hZ : Zs A s s.heap := hZ0
  have hA : ∀ q : Nat, s.heap.size ≤ q → A q := fun q h => by rw [← hAe]; exact Or.inr h
  have hS : va_S A s.heap s.heap [] := va_S.rf
  have hx := B.exec
  have hb := B.bytes
  have hr := B.returns
  have hts := atoms_spec (ws := wsX6_distinctOffers) B.pre
  have hown : s.vm.findClass RX6 = some m.cls := findClass_of_methodNamed B.named
  have hlk := B.notSynchronized
  have CF : CallFix p m c cX6_distinctOffers 4 s _ wsX6_distinctOffers RX6 := ⟨hx, hb, hml, hown, hts⟩
  have hl := lv_entry ([.ref (ad o), .int st, .int sl]) (n := 4) (Nat.le_of_ble_eq_true rfl)
  rw [lg_entry_eq]
  generalize (lg_sl ([.ref (ad o), .int st, .int sl]) ++ List.replicate (4 - (lg_sl ([.ref (ad o), .int st, .int sl])).length) Slot.unset).toArray = ls at hl ⊢
  have hl : lv_has ls 4 [(0, .ref (ad o)), (1, .int st), (2, .int sl)] := hl
  refine lv_iload_n hx hb dX6_distinctOffers_0 rfl (lv_at hl 1 rfl) ?_
  refine lv_iconst (v := 0) hx hb dX6_distinctOffers_1 (by decide) ?_
  refine lv_iconst (v := 2) hx hb dX6_distinctOffers_2 (by decide) ?_
  by_cases q3_1 : okA st 0 2
  · refine rvS (w0 := []) (As := [.int st, .int 0, .int 2]) (rest := []) CF (k_X6_checkArgument l G st 0 2 q3_1) (va_cwS 3 hts gX6_distinctOffers_X6_checkArgument rfl rfl rfl (by decide +kernel) ⟨Nat.le_of_ble_eq_true rfl, Nat.le_of_ble_eq_true rfl⟩) va_P_nil hY rfl hl.1 rfl (lv_room (Nat.le_of_ble_eq_true rfl)) dX6_distinctOffers_3 ⟨Nat.zero_le _, Nat.zero_le _⟩ ?_
    exact absurd q3_1 hk
  · refine noS0 (As := [.int st, .int 0, .int 2]) (rest := []) CF (kn_X6_checkArgument l hl0 G st 0 2 q3_1) (va_cwS 3 hts gX6_distinctOffers_X6_checkArgument rfl rfl rfl (by decide +kernel) ⟨Nat.le_of_ble_eq_true rfl, Nat.le_of_ble_eq_true rfl⟩) hP hD hS hA hY hZ rfl hl.1 rfl (lv_room (Nat.le_of_ble_eq_true rfl)) dX6_distinctOffers_3 ⟨Nat.le_of_ble_eq_true rfl, Nat.le_of_ble_eq_true rfl⟩ (fun ce q9 H locs hP hD hS hce hcv hcl hgr => ?_)
    exact no_out ht hlk hce hcv hcl hgr hS hP (by first | with_reducible rfl | (simp only [rrMD, rrDis, rrDisM, sld_eq, q3_1, ↓reduceIte]; done))

set_option maxHeartbeats 4000000 in
set_option maxRecDepth 100000 in
theorem kn2_X6_distinctOffers (l : Launch) (hl0 : l.stackTraces = false) (G : GT) (ad : Nat → Nat) (o : Nat) (sg : RRT) (st sl : Int32) (h0 : okA st 0 2) (hs : ¬ okP sl (rrDis sg st).2.1) : No l yX6_distinctOffers wsX6_distinctOffers { frames := 7, cells := 1, slots := 6, locals := 122 } G (wRR G ad o sg) (wRR G ad o (rrMD sg st)) [.ref (ad o), .int st, .int sl] "java/lang/IndexOutOfBoundsException" := by
  intro sz
  obtain ⟨k, s0, s1, mp, md⟩ := sg
  refine vx_ofW (cc := cX6_distinctOffers) (maxL := 4) (ret := (some .int)) (by decide) rfl ?_
  intro p e s m args below meth c s₁ B hml ht hv
  obtain ⟨rfl, hsz, hP, hY, hD0, hZ0⟩ := hv
  subst hsz
  have hD := hD0.self (sz := s.heap.size)
  generalize hAe : va_A (wRR G ad o (k, s0, s1, mp, md)) s.heap.size = A at hD hZ0 ⊢
  have hZ : Zs A s s.heap := hZ0
  have hA : ∀ q : Nat, s.heap.size ≤ q → A q := fun q h => by rw [← hAe]; exact Or.inr h
  have hS : va_S A s.heap s.heap [] := va_S.rf
  have hx := B.exec
  have hb := B.bytes
  have hr := B.returns
  have hts := atoms_spec (ws := wsX6_distinctOffers) B.pre
  have hown : s.vm.findClass RX6 = some m.cls := findClass_of_methodNamed B.named
  have hlk := B.notSynchronized
  have CF : CallFix p m c cX6_distinctOffers 4 s _ wsX6_distinctOffers RX6 := ⟨hx, hb, hml, hown, hts⟩
  have hiX1 : ∀ w ∈ wsX10, w ∈ wsX6_distinctOffers := fun w h => (List.mem_cons_of_mem _ (List.mem_append_left _ (List.mem_append_left _ (List.mem_append_left _ (List.mem_append_left _ (List.mem_append_right _ h))))))
  have hl := lv_entry ([.ref (ad o), .int st, .int sl]) (n := 4) (Nat.le_of_ble_eq_true rfl)
  rw [lg_entry_eq]
  generalize (lg_sl ([.ref (ad o), .int st, .int sl]) ++ List.replicate (4 - (lg_sl ([.ref (ad o), .int st, .int sl])).length) Slot.unset).toArray = ls at hl ⊢
  have hl : lv_has ls 4 [(0, .ref (ad o)), (1, .int st), (2, .int sl)] := hl
  refine lv_iload_n hx hb dX6_distinctOffers_0 rfl (lv_at hl 1 rfl) ?_
  refine lv_iconst (v := 0) hx hb dX6_distinctOffers_1 (by decide) ?_
  refine lv_iconst (v := 2) hx hb dX6_distinctOffers_2 (by decide) ?_
  refine rvS (w0 := []) (As := [.int st, .int 0, .int 2]) (rest := []) CF (k_X6_checkArgument l G st 0 2 h0) (va_cwS 3 hts gX6_distinctOffers_X6_checkArgument rfl rfl rfl (by decide +kernel) ⟨Nat.le_of_ble_eq_true rfl, Nat.le_of_ble_eq_true rfl⟩) va_P_nil hY rfl hl.1 rfl (lv_room (Nat.le_of_ble_eq_true rfl)) dX6_distinctOffers_3 ⟨Nat.zero_le _, Nat.zero_le _⟩ ?_
  refine lv_aload_n hx hb dX6_distinctOffers_6 rfl (lv_at hl 0 rfl) ?_
  refine lv_iload_n hx hb dX6_distinctOffers_7 rfl (lv_at hl 1 rfl) ?_
  by_cases q8_1 : st = 2
  · refine wrV [] (wRR G ad o (k, s0, s1, mp, md)) [] (wRR G ad o (rrMD (k, s0, s1, mp, md) st)) (As := [.int st]) (rest := []) CF (k2_X6_distinctOf l G ad o (k, s0, s1, mp, md) st q8_1) (cwV 1 hts gX6_distinctOffers_X6_distinctOf rfl rfl rfl (by decide +kernel) ⟨Nat.le_of_ble_eq_true rfl, Nat.le_of_ble_eq_true rfl⟩) hP hD hS hA hY rfl rfl (fst_RR _ _ _ _ _) rfl hl.1 rfl (lv_room (Nat.le_of_ble_eq_true rfl)) dX6_distinctOffers_8 ⟨Nat.zero_le _, Nat.zero_le _⟩ (fun H locs hP hD hS => ?_)
    have hP : va_P G.1 vwCl (wRR G ad o (rrMD (k, s0, s1, mp, md) st)) H := hP
    have hD : va_D A (wRR G ad o (rrMD (k, s0, s1, mp, md) st)) := hD
    refine lv_astore_n (lv' := [(3, .ref (ad (o+68))), (0, .ref (ad o)), (1, .int st), (2, .int sl)]) hx hb dX6_distinctOffers_11 rfl hl (by decide) rfl (fun ls hl => ?_)
    refine lv_iload_n hx hb dX6_distinctOffers_12 rfl (lv_at hl 3 rfl) ?_
    refine lv_aload_n hx hb dX6_distinctOffers_13 rfl (lv_at hl 0 rfl) ?_
    have hQ2 := va_P.subm (u := wDis G ad (o+68) ((rrMD (k, s0, s1, mp, md) st).2.2.2.2)) (fun q h => by simp only [wRR, List.mem_cons, List.mem_append, h, true_or, or_true]) hP
    refine va_getN (D := G.1) (ci := 1) (v := .int (((rrMD (k, s0, s1, mp, md) st).2.2.2.2).2.1)) (C := RX1) (T := TX1) (N := 4) hx hb hts hiX1 hown hY.1 hQ2 0 rfl rfl 3 (by decide) (va_Nw.use rfl (hY.2.1 (.fieldLinkNest RX6 126 RX1 "held" "I" RX6) (List.mem_of_getElem? (i := 1) rfl))) (fun _ h9 => h9) rfl dX6_distinctOffers_14 ?_
    refine noS0 (As := [.int sl, .int (((rrMD (k, s0, s1, mp, md) st).2.2.2.2).2.1)]) (rest := []) CF (kn_X6_checkPlace l hl0 G sl (((rrMD (k, s0, s1, mp, md) st).2.2.2.2).2.1) (by simpa only [rrMD, rrDis, rrDisM, eq_true q8_1, ↓reduceIte] using hs)) (va_cwS 2 hts gX6_distinctOffers_X6_checkPlace rfl rfl rfl (by decide +kernel) ⟨Nat.le_of_ble_eq_true rfl, Nat.le_of_ble_eq_true rfl⟩) hP hD hS hA hY hZ rfl hl.1 rfl (lv_room (Nat.le_of_ble_eq_true rfl)) dX6_distinctOffers_17 ⟨Nat.le_of_ble_eq_true rfl, Nat.le_of_ble_eq_true rfl⟩ (fun ce q9 H locs hP hD hS hce hcv hcl hgr => ?_)
    exact no_out ht hlk hce hcv hcl hgr hS hP (by first | with_reducible rfl | (simp only [rrMD, rrDis, rrDisM, sld_eq, eq_true q8_1, ↓reduceIte]; done))
  · by_cases q8_3 : st = 0
    · refine rdV (w0 := (wRR G ad o (k, s0, s1, mp, md))) (As := [.int st]) (rest := []) CF (k0_X6_distinctOf l G ad o (k, s0, s1, mp, md) st q8_1 q8_3) (cwV 1 hts gX6_distinctOffers_X6_distinctOf rfl rfl rfl (by decide +kernel) ⟨Nat.le_of_ble_eq_true rfl, Nat.le_of_ble_eq_true rfl⟩) hP hY rfl rfl rfl hl.1 rfl (lv_room (Nat.le_of_ble_eq_true rfl)) dX6_distinctOffers_8 ⟨Nat.zero_le _, Nat.zero_le _⟩ ?_
      refine lv_astore_n (lv' := [(3, .ref (ad (o+1+25))), (0, .ref (ad o)), (1, .int st), (2, .int sl)]) hx hb dX6_distinctOffers_11 rfl hl (by decide) rfl (fun ls hl => ?_)
      refine lv_iload_n hx hb dX6_distinctOffers_12 rfl (lv_at hl 3 rfl) ?_
      refine lv_aload_n hx hb dX6_distinctOffers_13 rfl (lv_at hl 0 rfl) ?_
      have hQ4 := va_P.subm (u := wDis G ad (o+1+25) s0.2.2.2.2.2.2.2.2.2.1) (fun q h => by simp only [wStr, wRR, List.mem_cons, List.mem_append, h, true_or, or_true]) hP
      refine va_getN (D := G.1) (ci := 1) (v := .int s0.2.2.2.2.2.2.2.2.2.1.2.1) (C := RX1) (T := TX1) (N := 4) hx hb hts hiX1 hown hY.1 hQ4 0 rfl rfl 3 (by decide) (va_Nw.use rfl (hY.2.1 (.fieldLinkNest RX6 126 RX1 "held" "I" RX6) (List.mem_of_getElem? (i := 1) rfl))) (fun _ h9 => h9) rfl dX6_distinctOffers_14 ?_
      refine noS0 (As := [.int sl, .int s0.2.2.2.2.2.2.2.2.2.1.2.1]) (rest := []) CF (kn_X6_checkPlace l hl0 G sl s0.2.2.2.2.2.2.2.2.2.1.2.1 (by simpa only [rrMD, rrDis, rrDisM, q8_1, eq_true q8_3, ↓reduceIte] using hs)) (va_cwS 2 hts gX6_distinctOffers_X6_checkPlace rfl rfl rfl (by decide +kernel) ⟨Nat.le_of_ble_eq_true rfl, Nat.le_of_ble_eq_true rfl⟩) hP hD hS hA hY hZ rfl hl.1 rfl (lv_room (Nat.le_of_ble_eq_true rfl)) dX6_distinctOffers_17 ⟨Nat.le_of_ble_eq_true rfl, Nat.le_of_ble_eq_true rfl⟩ (fun ce q9 H locs hP hD hS hce hcv hcl hgr => ?_)
      exact no_out ht hlk hce hcv hcl hgr hS hP (by first | with_reducible rfl | (simp only [rrMD, rrDis, rrDisM, sld_eq, q8_1, eq_true q8_3, ↓reduceIte]; done))
    · refine rdV (w0 := (wRR G ad o (k, s0, s1, mp, md))) (As := [.int st]) (rest := []) CF (k1_X6_distinctOf l G ad o (k, s0, s1, mp, md) st q8_1 q8_3) (cwV 1 hts gX6_distinctOffers_X6_distinctOf rfl rfl rfl (by decide +kernel) ⟨Nat.le_of_ble_eq_true rfl, Nat.le_of_ble_eq_true rfl⟩) hP hY rfl rfl rfl hl.1 rfl (lv_room (Nat.le_of_ble_eq_true rfl)) dX6_distinctOffers_8 ⟨Nat.zero_le _, Nat.zero_le _⟩ ?_
      refine lv_astore_n (lv' := [(3, .ref (ad (o+32+25))), (0, .ref (ad o)), (1, .int st), (2, .int sl)]) hx hb dX6_distinctOffers_11 rfl hl (by decide) rfl (fun ls hl => ?_)
      refine lv_iload_n hx hb dX6_distinctOffers_12 rfl (lv_at hl 3 rfl) ?_
      refine lv_aload_n hx hb dX6_distinctOffers_13 rfl (lv_at hl 0 rfl) ?_
      have hQ5 := va_P.subm (u := wDis G ad (o+32+25) s1.2.2.2.2.2.2.2.2.2.1) (fun q h => by simp only [wStr, wRR, List.mem_cons, List.mem_append, h, true_or, or_true]) hP
      refine va_getN (D := G.1) (ci := 1) (v := .int s1.2.2.2.2.2.2.2.2.2.1.2.1) (C := RX1) (T := TX1) (N := 4) hx hb hts hiX1 hown hY.1 hQ5 0 rfl rfl 3 (by decide) (va_Nw.use rfl (hY.2.1 (.fieldLinkNest RX6 126 RX1 "held" "I" RX6) (List.mem_of_getElem? (i := 1) rfl))) (fun _ h9 => h9) rfl dX6_distinctOffers_14 ?_
      refine noS0 (As := [.int sl, .int s1.2.2.2.2.2.2.2.2.2.1.2.1]) (rest := []) CF (kn_X6_checkPlace l hl0 G sl s1.2.2.2.2.2.2.2.2.2.1.2.1 (by simpa only [rrMD, rrDis, rrDisM, q8_1, q8_3, ↓reduceIte] using hs)) (va_cwS 2 hts gX6_distinctOffers_X6_checkPlace rfl rfl rfl (by decide +kernel) ⟨Nat.le_of_ble_eq_true rfl, Nat.le_of_ble_eq_true rfl⟩) hP hD hS hA hY hZ rfl hl.1 rfl (lv_room (Nat.le_of_ble_eq_true rfl)) dX6_distinctOffers_17 ⟨Nat.le_of_ble_eq_true rfl, Nat.le_of_ble_eq_true rfl⟩ (fun ce q9 H locs hP hD hS hce hcv hcl hgr => ?_)
      exact no_out ht hlk hce hcv hcl hgr hS hP (by first | with_reducible rfl | (simp only [rrMD, rrDis, rrDisM, sld_eq, q8_1, q8_3, ↓reduceIte]; done))

set_option maxHeartbeats 4000000 in
set_option maxRecDepth 100000 in
theorem k_X6_distinctEstimate (l : Launch) (G : GT) (ad : Nat → Nat) (o : Nat) (sg : RRT) (st : Int32) (h0 : okA st 0 2) : Wr l yX6_distinctEstimate wsX6_distinctEstimate { frames := 7, cells := 0, slots := 0, locals := 122 } G (wRR G ad o sg) (wRR G ad o (rrMD sg st)) [.ref (ad o), .int st] (some (.long (disEst (rrDis sg st)))) := by
  intro sz
  obtain ⟨k, s0, s1, mp, md⟩ := sg
  refine Met.ofW (cc := cX6_distinctEstimate) (maxL := 2) (ret := (some .long)) (by decide) rfl ?_
  intro p e s m args below meth c s₁ B hml hv
  obtain ⟨rfl, hsz, hP, hY, hD0⟩ := hv
  subst hsz
  have hD := hD0.self (sz := s.heap.size)
  generalize hAe : va_A (wRR G ad o (k, s0, s1, mp, md)) s.heap.size = A at hD ⊢
  have hA : ∀ q : Nat, s.heap.size ≤ q → A q := fun q h => by rw [← hAe]; exact Or.inr h
  have hS : va_S A s.heap s.heap [] := va_S.rf
  have hx := B.exec
  have hb := B.bytes
  have hr := B.returns
  have hts := atoms_spec (ws := wsX6_distinctEstimate) B.pre
  have hown : s.vm.findClass RX6 = some m.cls := findClass_of_methodNamed B.named
  have hlk := B.notSynchronized
  have CF : CallFix p m c cX6_distinctEstimate 2 s _ wsX6_distinctEstimate RX6 := ⟨hx, hb, hml, hown, hts⟩
  have hl := lv_entry ([.ref (ad o), .int st]) (n := 2) (Nat.le_of_ble_eq_true rfl)
  rw [lg_entry_eq]
  generalize (lg_sl ([.ref (ad o), .int st]) ++ List.replicate (2 - (lg_sl ([.ref (ad o), .int st])).length) Slot.unset).toArray = ls at hl ⊢
  have hl : lv_has ls 2 [(0, .ref (ad o)), (1, .int st)] := hl
  refine lv_iload_n hx hb dX6_distinctEstimate_0 rfl (lv_at hl 1 rfl) ?_
  refine lv_iconst (v := 0) hx hb dX6_distinctEstimate_1 (by decide) ?_
  refine lv_iconst (v := 2) hx hb dX6_distinctEstimate_2 (by decide) ?_
  refine rvS (w0 := []) (As := [.int st, .int 0, .int 2]) (rest := []) CF (k_X6_checkArgument l G st 0 2 h0) (va_cwS 3 hts gX6_distinctEstimate_X6_checkArgument rfl rfl rfl (by decide +kernel) ⟨Nat.le_of_ble_eq_true rfl, Nat.le_of_ble_eq_true rfl⟩) va_P_nil hY rfl hl.1 rfl (lv_room (Nat.le_of_ble_eq_true rfl)) dX6_distinctEstimate_3 ⟨Nat.zero_le _, Nat.zero_le _⟩ ?_
  refine lv_aload_n hx hb dX6_distinctEstimate_6 rfl (lv_at hl 0 rfl) ?_
  refine lv_iload_n hx hb dX6_distinctEstimate_7 rfl (lv_at hl 1 rfl) ?_
  by_cases q8_1 : st = 2
  · refine wrV [] (wRR G ad o (k, s0, s1, mp, md)) [] (wRR G ad o (rrMD (k, s0, s1, mp, md) st)) (As := [.int st]) (rest := []) CF (k2_X6_distinctOf l G ad o (k, s0, s1, mp, md) st q8_1) (cwV 1 hts gX6_distinctEstimate_X6_distinctOf rfl rfl rfl (by decide +kernel) ⟨Nat.le_of_ble_eq_true rfl, Nat.le_of_ble_eq_true rfl⟩) hP hD hS hA hY rfl rfl (fst_RR _ _ _ _ _) rfl hl.1 rfl (lv_room (Nat.le_of_ble_eq_true rfl)) dX6_distinctEstimate_8 ⟨Nat.zero_le _, Nat.zero_le _⟩ (fun H locs hP hD hS => ?_)
    have hP : va_P G.1 vwCl (wRR G ad o (rrMD (k, s0, s1, mp, md) st)) H := hP
    have hD : va_D A (wRR G ad o (rrMD (k, s0, s1, mp, md) st)) := hD
    have hQ2 := va_P.subm (u := wDis G ad (o+68) ((rrMD (k, s0, s1, mp, md) st).2.2.2.2)) (fun q h => by simp only [wRR, List.mem_cons, List.mem_append, h, true_or, or_true]) hP
    refine rdV (w0 := (wDis G ad (o+68) ((rrMD (k, s0, s1, mp, md) st).2.2.2.2))) (As := []) (rest := []) CF (k_X1_estimatedCount l G ad (o+68) ((rrMD (k, s0, s1, mp, md) st).2.2.2.2)) (cwV 0 hts gX6_distinctEstimate_X1_estimatedCount rfl rfl rfl (by decide +kernel) ⟨Nat.le_of_ble_eq_true rfl, Nat.le_of_ble_eq_true rfl⟩) hQ2 hY rfl rfl rfl hl.1 rfl (lv_room (Nat.le_of_ble_eq_true rfl)) dX6_distinctEstimate_11 ⟨Nat.zero_le _, Nat.zero_le _⟩ ?_
    exact wr_lret hx hb hr hlk hS hP (by first | with_reducible rfl | (simp only [rrMD, rrDis, rrDisM, sld_eq, eq_true q8_1, ↓reduceIte]; done)) (by first | with_reducible rfl | (simp only [rrMD, rrDis, rrDisM, sld_eq, eq_true q8_1, ↓reduceIte]; done)) dX6_distinctEstimate_14
  · by_cases q8_3 : st = 0
    · refine rdV (w0 := (wRR G ad o (k, s0, s1, mp, md))) (As := [.int st]) (rest := []) CF (k0_X6_distinctOf l G ad o (k, s0, s1, mp, md) st q8_1 q8_3) (cwV 1 hts gX6_distinctEstimate_X6_distinctOf rfl rfl rfl (by decide +kernel) ⟨Nat.le_of_ble_eq_true rfl, Nat.le_of_ble_eq_true rfl⟩) hP hY rfl rfl rfl hl.1 rfl (lv_room (Nat.le_of_ble_eq_true rfl)) dX6_distinctEstimate_8 ⟨Nat.zero_le _, Nat.zero_le _⟩ ?_
      have hQ4 := va_P.subm (u := wDis G ad (o+1+25) s0.2.2.2.2.2.2.2.2.2.1) (fun q h => by simp only [wStr, wRR, List.mem_cons, List.mem_append, h, true_or, or_true]) hP
      refine rdV (w0 := (wDis G ad (o+1+25) s0.2.2.2.2.2.2.2.2.2.1)) (As := []) (rest := []) CF (k_X1_estimatedCount l G ad (o+1+25) s0.2.2.2.2.2.2.2.2.2.1) (cwV 0 hts gX6_distinctEstimate_X1_estimatedCount rfl rfl rfl (by decide +kernel) ⟨Nat.le_of_ble_eq_true rfl, Nat.le_of_ble_eq_true rfl⟩) hQ4 hY rfl rfl rfl hl.1 rfl (lv_room (Nat.le_of_ble_eq_true rfl)) dX6_distinctEstimate_11 ⟨Nat.zero_le _, Nat.zero_le _⟩ ?_
      exact wr_lret hx hb hr hlk hS hP (by first | with_reducible rfl | (simp only [rrMD, rrDis, rrDisM, sld_eq, q8_1, eq_true q8_3, ↓reduceIte]; done)) (by first | with_reducible rfl | (simp only [rrMD, rrDis, rrDisM, sld_eq, q8_1, eq_true q8_3, ↓reduceIte]; done)) dX6_distinctEstimate_14
    · refine rdV (w0 := (wRR G ad o (k, s0, s1, mp, md))) (As := [.int st]) (rest := []) CF (k1_X6_distinctOf l G ad o (k, s0, s1, mp, md) st q8_1 q8_3) (cwV 1 hts gX6_distinctEstimate_X6_distinctOf rfl rfl rfl (by decide +kernel) ⟨Nat.le_of_ble_eq_true rfl, Nat.le_of_ble_eq_true rfl⟩) hP hY rfl rfl rfl hl.1 rfl (lv_room (Nat.le_of_ble_eq_true rfl)) dX6_distinctEstimate_8 ⟨Nat.zero_le _, Nat.zero_le _⟩ ?_
      have hQ5 := va_P.subm (u := wDis G ad (o+32+25) s1.2.2.2.2.2.2.2.2.2.1) (fun q h => by simp only [wStr, wRR, List.mem_cons, List.mem_append, h, true_or, or_true]) hP
      refine rdV (w0 := (wDis G ad (o+32+25) s1.2.2.2.2.2.2.2.2.2.1)) (As := []) (rest := []) CF (k_X1_estimatedCount l G ad (o+32+25) s1.2.2.2.2.2.2.2.2.2.1) (cwV 0 hts gX6_distinctEstimate_X1_estimatedCount rfl rfl rfl (by decide +kernel) ⟨Nat.le_of_ble_eq_true rfl, Nat.le_of_ble_eq_true rfl⟩) hQ5 hY rfl rfl rfl hl.1 rfl (lv_room (Nat.le_of_ble_eq_true rfl)) dX6_distinctEstimate_11 ⟨Nat.zero_le _, Nat.zero_le _⟩ ?_
      exact wr_lret hx hb hr hlk hS hP (by first | with_reducible rfl | (simp only [rrMD, rrDis, rrDisM, sld_eq, q8_1, q8_3, ↓reduceIte]; done)) (by first | with_reducible rfl | (simp only [rrMD, rrDis, rrDisM, sld_eq, q8_1, q8_3, ↓reduceIte]; done)) dX6_distinctEstimate_14

set_option maxHeartbeats 4000000 in
set_option maxRecDepth 100000 in
theorem kn_X6_distinctEstimate (l : Launch) (hl0 : l.stackTraces = false) (G : GT) (ad : Nat → Nat) (o : Nat) (sg : RRT) (st : Int32) (hk : ¬ (okA st 0 2)) : No l yX6_distinctEstimate wsX6_distinctEstimate { frames := 7, cells := 1, slots := 6, locals := 122 } G (wRR G ad o sg) (wRR G ad o sg) [.ref (ad o), .int st] "java/lang/IllegalArgumentException" := by
  intro sz
  obtain ⟨k, s0, s1, mp, md⟩ := sg
  refine vx_ofW (cc := cX6_distinctEstimate) (maxL := 2) (ret := (some .long)) (by decide) rfl ?_
  intro p e s m args below meth c s₁ B hml ht hv
  obtain ⟨rfl, hsz, hP, hY, hD0, hZ0⟩ := hv
  subst hsz
  have hD := hD0.self (sz := s.heap.size)
  generalize hAe : va_A (wRR G ad o (k, s0, s1, mp, md)) s.heap.size = A at hD hZ0 ⊢
  have hZ : Zs A s s.heap := hZ0
  have hA : ∀ q : Nat, s.heap.size ≤ q → A q := fun q h => by rw [← hAe]; exact Or.inr h
  have hS : va_S A s.heap s.heap [] := va_S.rf
  have hx := B.exec
  have hb := B.bytes
  have hr := B.returns
  have hts := atoms_spec (ws := wsX6_distinctEstimate) B.pre
  have hown : s.vm.findClass RX6 = some m.cls := findClass_of_methodNamed B.named
  have hlk := B.notSynchronized
  have CF : CallFix p m c cX6_distinctEstimate 2 s _ wsX6_distinctEstimate RX6 := ⟨hx, hb, hml, hown, hts⟩
  have hl := lv_entry ([.ref (ad o), .int st]) (n := 2) (Nat.le_of_ble_eq_true rfl)
  rw [lg_entry_eq]
  generalize (lg_sl ([.ref (ad o), .int st]) ++ List.replicate (2 - (lg_sl ([.ref (ad o), .int st])).length) Slot.unset).toArray = ls at hl ⊢
  have hl : lv_has ls 2 [(0, .ref (ad o)), (1, .int st)] := hl
  refine lv_iload_n hx hb dX6_distinctEstimate_0 rfl (lv_at hl 1 rfl) ?_
  refine lv_iconst (v := 0) hx hb dX6_distinctEstimate_1 (by decide) ?_
  refine lv_iconst (v := 2) hx hb dX6_distinctEstimate_2 (by decide) ?_
  by_cases q3_1 : okA st 0 2
  · refine rvS (w0 := []) (As := [.int st, .int 0, .int 2]) (rest := []) CF (k_X6_checkArgument l G st 0 2 q3_1) (va_cwS 3 hts gX6_distinctEstimate_X6_checkArgument rfl rfl rfl (by decide +kernel) ⟨Nat.le_of_ble_eq_true rfl, Nat.le_of_ble_eq_true rfl⟩) va_P_nil hY rfl hl.1 rfl (lv_room (Nat.le_of_ble_eq_true rfl)) dX6_distinctEstimate_3 ⟨Nat.zero_le _, Nat.zero_le _⟩ ?_
    exact absurd q3_1 hk
  · refine noS0 (As := [.int st, .int 0, .int 2]) (rest := []) CF (kn_X6_checkArgument l hl0 G st 0 2 q3_1) (va_cwS 3 hts gX6_distinctEstimate_X6_checkArgument rfl rfl rfl (by decide +kernel) ⟨Nat.le_of_ble_eq_true rfl, Nat.le_of_ble_eq_true rfl⟩) hP hD hS hA hY hZ rfl hl.1 rfl (lv_room (Nat.le_of_ble_eq_true rfl)) dX6_distinctEstimate_3 ⟨Nat.le_of_ble_eq_true rfl, Nat.le_of_ble_eq_true rfl⟩ (fun ce q9 H locs hP hD hS hce hcv hcl hgr => ?_)
    exact no_out ht hlk hce hcv hcl hgr hS hP (by first | with_reducible rfl | (simp only [rrMD, rrDis, rrDisM, sld_eq, q3_1, ↓reduceIte]; done))
