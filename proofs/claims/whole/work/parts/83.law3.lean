set_option maxHeartbeats 4000000 in
set_option maxRecDepth 100000 in
theorem lc_distinctOffers {p : Program} {l : Launch} {e : Env} {s : State} {m : MethodId} {below : List Frame} {meth : Method} {c : Code} {G : GT} {b L : Nat} {xs : Nat → Int32} {Q : State → Prop} (C : LawAt p l s m meth c b L xs G) {i : Nat} (hi : i + 7 ≤ L) {ad ae : Nat → Nat} {ou : Nat} {sg : RRT} {r : MoT} {fo : Nat → Int64} (hR : Rel sg r) {H : Heap} {locs : List Loc} {cells slots : Nat} (hc : cells + 1 ≤ 1108) (hsl : slots + 6 ≤ 14071) (hP : va_P G.1 vwCl (([(ou, .inl (G.2.2.2, 1, .inr (.inl fo)))] ++ (wRR G ad 0 sg)) ++ wMo G ae 0 r) H) (hD : va_D (fun q : Nat => s.heap.size ≤ q) (([(ou, .inl (G.2.2.2, 1, .inr (.inl fo)))] ++ (wRR G ad 0 sg)) ++ wMo G ae 0 r)) (hS : va_S (fun q : Nat => s.heap.size ≤ q) s.heap H locs) {ls : Array Slot} (hl : lv_has ls 8 [(0, .ref b), (1, .ref (ad 0)), (2, .ref (ae 0)), (3, .ref ou), (4, .int (nI i))])
    (next : ∀ (sg : RRT) (r : MoT) (fo : Nat → Int64) (H : Heap) (locs : List Loc) (ls : Array Slot), Rel sg r → va_P G.1 vwCl (([(ou, .inl (G.2.2.2, 1, .inr (.inl fo)))] ++ (wRR G ad 0 sg)) ++ wMo G ae 0 r) H → va_D (fun q : Nat => s.heap.size ≤ q) (([(ou, .inl (G.2.2.2, 1, .inr (.inl fo)))] ++ (wRR G ad 0 sg)) ++ wMo G ae 0 r) → va_S (fun q : Nat => s.heap.size ≤ q) s.heap H locs → lv_has ls 8 [(0, .ref b), (1, .ref (ad 0)), (2, .ref (ae 0)), (3, .ref ou), (4, .int (nI i))] → W p l e room_1 s m #[Value.ref b] below meth c H locs (cells + 1) (slots + 6) Q (F0 m 1690 ls [])) :
    W p l e room_1 s m #[Value.ref b] below meth c H locs cells slots Q (F0 m 1343 ls []) := by
  obtain ⟨⟨hx, hb, hr, hml, hown, hts0, hX, hbl, hlocks, hgv⟩, hl0, hY, hZ, hL⟩ := C
  have hts : ∀ w ∈ wsL_law, w.before #[Value.ref b] s = true := fun w h => hts0 w (wsL_law_in w h)
  have hown : s.vm.findClass RL = some m.cls := hown
  have CF : CallFix p m c cL_law 8 s #[Value.ref b] wsL_law RL := ⟨hx, hb, hml, hown, hts⟩
  have hA : ∀ q : Nat, s.heap.size ≤ q → (fun q : Nat => s.heap.size ≤ q) q := fun _ h => h
  have hbA : ¬ (fun q : Nat => s.heap.size ≤ q) b := Nat.not_le.mpr hbl
  refine lv_aload_n hx hb dL_law_1343 rfl (lv_at hl 1 rfl) ?_
  refine lv_aload_n hx hb dL_law_1344 rfl (lv_at hl 0 rfl) ?_
  refine lv_iload hx hb dL_law_1345 (lv_at hl 4 rfl) ?_
  refine lv_iconst (v := 1) hx hb dL_law_1347 (by decide) ?_
  refine lv_iadd hx hb dL_law_1348 ?_
  refine va_sld hx hb hX hbl hbA hS (ix_1 hi hL) dL_law_1349 ?_
  refine lv_aload_n hx hb dL_law_1350 rfl (lv_at hl 0 rfl) ?_
  refine lv_iload hx hb dL_law_1351 (lv_at hl 4 rfl) ?_
  refine lv_iconst (v := 2) hx hb dL_law_1353 (by decide) ?_
  refine lv_iadd hx hb dL_law_1354 ?_
  refine va_sld hx hb hX hbl hbA hS (ix_2 hi hL) dL_law_1355 ?_
  refine lv_aload_n hx hb dL_law_1356 rfl (lv_at hl 3 rfl) ?_
  obtain ⟨kk, fo1, sg1, b1, r1, hC, hM, e1, e2, hR1⟩ := ag_distinctOffers l hl0 G ad 0 ae 0 hR (xs (nI i + 1).toNatClampNeg) (xs (nI i + 2).toNatClampNeg) ou fo
  refine caS [] ([(ou, .inl (G.2.2.2, 1, .inr (.inl fo)))] ++ (wRR G ad 0 sg)) (wMo G ae 0 r) ([(ou, .inl (G.2.2.2, 1, .inr (.inl fo1)))] ++ (wRR G ad 0 sg1)) (As := [.ref (ad 0), .int (xs (nI i + 1).toNatClampNeg), .int (xs (nI i + 2).toNatClampNeg), .ref ou]) (rest := []) CF hC (vx_cwSW 4 hts gL_law_L_distinctOffers rfl rfl rfl (by decide +kernel) ⟨Nat.le_of_ble_eq_true rfl, Nat.le_of_ble_eq_true rfl⟩) hP hD hS hA hY hZ (fst_LR _ _ _ _ _ _ _ _) rfl hl.1 rfl (lv_room (Nat.le_of_ble_eq_true rfl)) dL_law_1357 ⟨hc, hsl⟩ (fun H locs hP hD hS => ?_)
  have hP : va_P G.1 vwCl (([(ou, .inl (G.2.2.2, 1, .inr (.inl fo1)))] ++ (wRR G ad 0 sg1)) ++ wMo G ae 0 r) H := hP
  have hD : va_D (fun q : Nat => s.heap.size ≤ q) (([(ou, .inl (G.2.2.2, 1, .inr (.inl fo1)))] ++ (wRR G ad 0 sg1)) ++ wMo G ae 0 r) := hD
  refine lv_istore (lv' := [(5, .int kk), (0, .ref b), (1, .ref (ad 0)), (2, .ref (ae 0)), (3, .ref ou), (4, .int (nI i))]) hx hb dL_law_1360 hl (by decide) rfl (fun ls hl => ?_)
  refine lv_aload_n hx hb dL_law_1362 rfl (lv_at hl 3 rfl) ?_
  refine lv_aload_n hx hb dL_law_1363 rfl (lv_at hl 1 rfl) ?_
  refine lv_iload hx hb dL_law_1364 (lv_at hl 5 rfl) ?_
  refine lv_iconst (v := 1) hx hb dL_law_1366 (by decide) ?_
  refine lv_iadd hx hb dL_law_1367 ?_
  refine va_sld hx hb hX hbl hbA hS (ix_1 hi hL) dL_law_1368 ?_
  refine lv_aload_n hx hb dL_law_1369 rfl (lv_at hl 1 rfl) ?_
  refine lv_iload hx hb dL_law_1370 (lv_at hl 5 rfl) ?_
  refine lv_iconst (v := 2) hx hb dL_law_1372 (by decide) ?_
  refine lv_iadd hx hb dL_law_1373 ?_
  refine va_sld hx hb hX hbl hbA hS (ix_2 hi hL) dL_law_1374 ?_
  rw [← List.append_nil (wMo G ae 0 r)] at hP hD
  refine wrV ([(ou, .inl (G.2.2.2, 1, .inr (.inl fo1)))] ++ (wRR G ad 0 sg1)) (wMo G ae 0 r) [] (wMo G ae 0 r1) (As := [.int (xs (nI i + 1).toNatClampNeg), .int (xs (nI i + 2).toNatClampNeg)]) (rest := []) CF hM (cwV 2 hts gL_law_X7_distinctOffers rfl rfl rfl (by decide +kernel) ⟨Nat.le_of_ble_eq_true rfl, Nat.le_of_ble_eq_true rfl⟩) hP hD hS hA hY rfl rfl (fst_Mo _ _ _ _ _) rfl hl.1 rfl (lv_room (Nat.le_of_ble_eq_true rfl)) dL_law_1375 ⟨(show cells + 1 ≤ 1108 from hc), (show slots + 6 ≤ 14071 from hsl)⟩ (fun H locs hP hD hS => ?_)
  rw [List.append_nil] at hP hD
  refine lv_istore (lv' := [(6, .int b1), (5, .int kk), (0, .ref b), (1, .ref (ad 0)), (2, .ref (ae 0)), (3, .ref ou), (4, .int (nI i))]) hx hb dL_law_1378 hl (by decide) rfl (fun ls hl => ?_)
  refine lv_aload_n hx hb dL_law_1380 rfl (lv_at hl 4 rfl) ?_
  refine rdV (w0 := (wMo G ae 0 r1)) (As := []) (rest := []) CF (k_X7_thrown l G ae 0 r1) (cwV 0 hts gL_law_X7_thrown rfl rfl rfl (by decide +kernel) ⟨Nat.le_of_ble_eq_true rfl, Nat.le_of_ble_eq_true rfl⟩) hP.apr hY rfl rfl rfl hl.1 rfl (lv_room (Nat.le_of_ble_eq_true rfl)) dL_law_1381 ⟨(show cells + 1 ≤ 1108 from hc), (show slots + 6 ≤ 14071 from hsl)⟩ ?_
  refine lv_iload hx hb dL_law_1384 (lv_at hl 1 rfl) ?_
  refine lv_icmp_eq (tgt := 1391) hx hb dL_law_1386 (by decide) (fun _ => ?_) (fun hh => absurd e1 hh)
  refine lv_iload hx hb dL_law_1391 (lv_at hl 1 rfl) ?_
  refine lv_if_ne (tgt := 1408) hx hb dL_law_1393 (by decide) (fun _ => ?_) (fun hk => ?_)
  · refine lv_goto (tgt := 1690) hx hb dL_law_1408 (by decide) ?_
    exact next sg1 r1 fo1 H locs ls hR1 hP hD hS (lv_sub hl [2, 3, 4, 5, 6] rfl)
  refine lv_aload_n hx hb dL_law_1396 rfl (lv_at hl 5 rfl) ?_
  refine lv_iconst (v := 0) hx hb dL_law_1397 (by decide) ?_
  refine va_lald hx hb hY.1 hP 0 2 rfl rfl vp_0_1 dL_law_1398 ?_
  refine lv_iload hx hb dL_law_1399 (lv_at hl 0 rfl) ?_
  refine lv_i2l hx hb dL_law_1401 rfl ?_
  refine W.lcmp hx hb dL_law_1402 ?_
  refine lv_if_eq (tgt := 1408) hx hb dL_law_1403 (by decide) (fun _ => ?_) (fun hh => absurd ((lg_cmp_eq _ _).mpr (e2 hk)) hh)
  refine lv_goto (tgt := 1690) hx hb dL_law_1408 (by decide) ?_
  exact next sg1 r1 fo1 H locs ls hR1 hP hD hS (lv_sub hl [2, 3, 4, 5, 6] rfl)

set_option maxHeartbeats 4000000 in
set_option maxRecDepth 100000 in
theorem lc_distinctEstimate {p : Program} {l : Launch} {e : Env} {s : State} {m : MethodId} {below : List Frame} {meth : Method} {c : Code} {G : GT} {b L : Nat} {xs : Nat → Int32} {Q : State → Prop} (C : LawAt p l s m meth c b L xs G) {i : Nat} (hi : i + 7 ≤ L) {ad ae : Nat → Nat} {ou : Nat} {sg : RRT} {r : MoT} {fo : Nat → Int64} (hR : Rel sg r) {H : Heap} {locs : List Loc} {cells slots : Nat} (hc : cells + 1 ≤ 1108) (hsl : slots + 6 ≤ 14071) (hP : va_P G.1 vwCl (([(ou, .inl (G.2.2.2, 1, .inr (.inl fo)))] ++ (wRR G ad 0 sg)) ++ wMo G ae 0 r) H) (hD : va_D (fun q : Nat => s.heap.size ≤ q) (([(ou, .inl (G.2.2.2, 1, .inr (.inl fo)))] ++ (wRR G ad 0 sg)) ++ wMo G ae 0 r)) (hS : va_S (fun q : Nat => s.heap.size ≤ q) s.heap H locs) {ls : Array Slot} (hl : lv_has ls 8 [(0, .ref b), (1, .ref (ad 0)), (2, .ref (ae 0)), (3, .ref ou), (4, .int (nI i))])
    (next : ∀ (sg : RRT) (r : MoT) (fo : Nat → Int64) (H : Heap) (locs : List Loc) (ls : Array Slot), Rel sg r → va_P G.1 vwCl (([(ou, .inl (G.2.2.2, 1, .inr (.inl fo)))] ++ (wRR G ad 0 sg)) ++ wMo G ae 0 r) H → va_D (fun q : Nat => s.heap.size ≤ q) (([(ou, .inl (G.2.2.2, 1, .inr (.inl fo)))] ++ (wRR G ad 0 sg)) ++ wMo G ae 0 r) → va_S (fun q : Nat => s.heap.size ≤ q) s.heap H locs → lv_has ls 8 [(0, .ref b), (1, .ref (ad 0)), (2, .ref (ae 0)), (3, .ref ou), (4, .int (nI i))] → W p l e room_1 s m #[Value.ref b] below meth c H locs (cells + 1) (slots + 6) Q (F0 m 1690 ls [])) :
    W p l e room_1 s m #[Value.ref b] below meth c H locs cells slots Q (F0 m 1411 ls []) := by
  obtain ⟨⟨hx, hb, hr, hml, hown, hts0, hX, hbl, hlocks, hgv⟩, hl0, hY, hZ, hL⟩ := C
  have hts : ∀ w ∈ wsL_law, w.before #[Value.ref b] s = true := fun w h => hts0 w (wsL_law_in w h)
  have hown : s.vm.findClass RL = some m.cls := hown
  have CF : CallFix p m c cL_law 8 s #[Value.ref b] wsL_law RL := ⟨hx, hb, hml, hown, hts⟩
  have hA : ∀ q : Nat, s.heap.size ≤ q → (fun q : Nat => s.heap.size ≤ q) q := fun _ h => h
  have hbA : ¬ (fun q : Nat => s.heap.size ≤ q) b := Nat.not_le.mpr hbl
  refine lv_aload_n hx hb dL_law_1411 rfl (lv_at hl 1 rfl) ?_
  refine lv_aload_n hx hb dL_law_1412 rfl (lv_at hl 0 rfl) ?_
  refine lv_iload hx hb dL_law_1413 (lv_at hl 4 rfl) ?_
  refine lv_iconst (v := 1) hx hb dL_law_1415 (by decide) ?_
  refine lv_iadd hx hb dL_law_1416 ?_
  refine va_sld hx hb hX hbl hbA hS (ix_1 hi hL) dL_law_1417 ?_
  refine lv_aload_n hx hb dL_law_1418 rfl (lv_at hl 3 rfl) ?_
  obtain ⟨kk, fo1, sg1, b1, r1, hC, hM, e1, e2, hR1⟩ := ag_distinctEstimate l hl0 G ad 0 ae 0 hR (xs (nI i + 1).toNatClampNeg) ou fo
  refine caS [] ([(ou, .inl (G.2.2.2, 1, .inr (.inl fo)))] ++ (wRR G ad 0 sg)) (wMo G ae 0 r) ([(ou, .inl (G.2.2.2, 1, .inr (.inl fo1)))] ++ (wRR G ad 0 sg1)) (As := [.ref (ad 0), .int (xs (nI i + 1).toNatClampNeg), .ref ou]) (rest := []) CF hC (vx_cwSW 3 hts gL_law_L_distinctEstimate rfl rfl rfl (by decide +kernel) ⟨Nat.le_of_ble_eq_true rfl, Nat.le_of_ble_eq_true rfl⟩) hP hD hS hA hY hZ (fst_LR _ _ _ _ _ _ _ _) rfl hl.1 rfl (lv_room (Nat.le_of_ble_eq_true rfl)) dL_law_1419 ⟨hc, hsl⟩ (fun H locs hP hD hS => ?_)
  have hP : va_P G.1 vwCl (([(ou, .inl (G.2.2.2, 1, .inr (.inl fo1)))] ++ (wRR G ad 0 sg1)) ++ wMo G ae 0 r) H := hP
  have hD : va_D (fun q : Nat => s.heap.size ≤ q) (([(ou, .inl (G.2.2.2, 1, .inr (.inl fo1)))] ++ (wRR G ad 0 sg1)) ++ wMo G ae 0 r) := hD
  refine lv_istore (lv' := [(5, .int kk), (0, .ref b), (1, .ref (ad 0)), (2, .ref (ae 0)), (3, .ref ou), (4, .int (nI i))]) hx hb dL_law_1422 hl (by decide) rfl (fun ls hl => ?_)
  refine lv_aload_n hx hb dL_law_1424 rfl (lv_at hl 3 rfl) ?_
  refine lv_aload_n hx hb dL_law_1425 rfl (lv_at hl 1 rfl) ?_
  refine lv_iload hx hb dL_law_1426 (lv_at hl 5 rfl) ?_
  refine lv_iconst (v := 1) hx hb dL_law_1428 (by decide) ?_
  refine lv_iadd hx hb dL_law_1429 ?_
  refine va_sld hx hb hX hbl hbA hS (ix_1 hi hL) dL_law_1430 ?_
  rw [← List.append_nil (wMo G ae 0 r)] at hP hD
  refine wrV ([(ou, .inl (G.2.2.2, 1, .inr (.inl fo1)))] ++ (wRR G ad 0 sg1)) (wMo G ae 0 r) [] (wMo G ae 0 r1) (As := [.int (xs (nI i + 1).toNatClampNeg)]) (rest := []) CF hM (cwV 1 hts gL_law_X7_distinctEstimate rfl rfl rfl (by decide +kernel) ⟨Nat.le_of_ble_eq_true rfl, Nat.le_of_ble_eq_true rfl⟩) hP hD hS hA hY rfl rfl (fst_Mo _ _ _ _ _) rfl hl.1 rfl (lv_room (Nat.le_of_ble_eq_true rfl)) dL_law_1431 ⟨(show cells + 1 ≤ 1108 from hc), (show slots + 6 ≤ 14071 from hsl)⟩ (fun H locs hP hD hS => ?_)
  rw [List.append_nil] at hP hD
  refine lv_lstore (lv' := [(6, .long b1), (5, .int kk), (0, .ref b), (1, .ref (ad 0)), (2, .ref (ae 0)), (3, .ref ou), (4, .int (nI i))]) hx hb dL_law_1434 hl (by decide) rfl (fun ls hl => ?_)
  refine lv_aload_n hx hb dL_law_1436 rfl (lv_at hl 4 rfl) ?_
  refine rdV (w0 := (wMo G ae 0 r1)) (As := []) (rest := []) CF (k_X7_thrown l G ae 0 r1) (cwV 0 hts gL_law_X7_thrown rfl rfl rfl (by decide +kernel) ⟨Nat.le_of_ble_eq_true rfl, Nat.le_of_ble_eq_true rfl⟩) hP.apr hY rfl rfl rfl hl.1 rfl (lv_room (Nat.le_of_ble_eq_true rfl)) dL_law_1437 ⟨(show cells + 1 ≤ 1108 from hc), (show slots + 6 ≤ 14071 from hsl)⟩ ?_
  refine lv_iload hx hb dL_law_1440 (lv_at hl 1 rfl) ?_
  refine lv_icmp_eq (tgt := 1447) hx hb dL_law_1442 (by decide) (fun _ => ?_) (fun hh => absurd e1 hh)
  refine lv_iload hx hb dL_law_1447 (lv_at hl 1 rfl) ?_
  refine lv_if_ne (tgt := 1463) hx hb dL_law_1449 (by decide) (fun _ => ?_) (fun hk => ?_)
  · refine lv_goto (tgt := 1690) hx hb dL_law_1463 (by decide) ?_
    exact next sg1 r1 fo1 H locs ls hR1 hP hD hS (lv_sub hl [2, 3, 4, 5, 6] rfl)
  refine lv_aload_n hx hb dL_law_1452 rfl (lv_at hl 5 rfl) ?_
  refine lv_iconst (v := 0) hx hb dL_law_1453 (by decide) ?_
  refine va_lald hx hb hY.1 hP 0 2 rfl rfl vp_0_1 dL_law_1454 ?_
  refine lv_lload hx hb dL_law_1455 (lv_at hl 0 rfl) ?_
  refine W.lcmp hx hb dL_law_1457 ?_
  refine lv_if_eq (tgt := 1463) hx hb dL_law_1458 (by decide) (fun _ => ?_) (fun hh => absurd ((lg_cmp_eq _ _).mpr (e2 hk)) hh)
  refine lv_goto (tgt := 1690) hx hb dL_law_1463 (by decide) ?_
  exact next sg1 r1 fo1 H locs ls hR1 hP hD hS (lv_sub hl [2, 3, 4, 5, 6] rfl)

set_option maxHeartbeats 4000000 in
set_option maxRecDepth 100000 in
theorem lc_windowItem {p : Program} {l : Launch} {e : Env} {s : State} {m : MethodId} {below : List Frame} {meth : Method} {c : Code} {G : GT} {b L : Nat} {xs : Nat → Int32} {Q : State → Prop} (C : LawAt p l s m meth c b L xs G) {i : Nat} (hi : i + 7 ≤ L) {ad ae : Nat → Nat} {ou : Nat} {sg : RRT} {r : MoT} {fo : Nat → Int64} (hR : Rel sg r) {H : Heap} {locs : List Loc} {cells slots : Nat} (hc : cells + 1 ≤ 1108) (hsl : slots + 6 ≤ 14071) (hP : va_P G.1 vwCl (([(ou, .inl (G.2.2.2, 1, .inr (.inl fo)))] ++ (wRR G ad 0 sg)) ++ wMo G ae 0 r) H) (hD : va_D (fun q : Nat => s.heap.size ≤ q) (([(ou, .inl (G.2.2.2, 1, .inr (.inl fo)))] ++ (wRR G ad 0 sg)) ++ wMo G ae 0 r)) (hS : va_S (fun q : Nat => s.heap.size ≤ q) s.heap H locs) {ls : Array Slot} (hl : lv_has ls 8 [(0, .ref b), (1, .ref (ad 0)), (2, .ref (ae 0)), (3, .ref ou), (4, .int (nI i))])
    (next : ∀ (sg : RRT) (r : MoT) (fo : Nat → Int64) (H : Heap) (locs : List Loc) (ls : Array Slot), Rel sg r → va_P G.1 vwCl (([(ou, .inl (G.2.2.2, 1, .inr (.inl fo)))] ++ (wRR G ad 0 sg)) ++ wMo G ae 0 r) H → va_D (fun q : Nat => s.heap.size ≤ q) (([(ou, .inl (G.2.2.2, 1, .inr (.inl fo)))] ++ (wRR G ad 0 sg)) ++ wMo G ae 0 r) → va_S (fun q : Nat => s.heap.size ≤ q) s.heap H locs → lv_has ls 8 [(0, .ref b), (1, .ref (ad 0)), (2, .ref (ae 0)), (3, .ref ou), (4, .int (nI i))] → W p l e room_1 s m #[Value.ref b] below meth c H locs (cells + 1) (slots + 6) Q (F0 m 1690 ls [])) :
    W p l e room_1 s m #[Value.ref b] below meth c H locs cells slots Q (F0 m 1466 ls []) := by
  obtain ⟨⟨hx, hb, hr, hml, hown, hts0, hX, hbl, hlocks, hgv⟩, hl0, hY, hZ, hL⟩ := C
  have hts : ∀ w ∈ wsL_law, w.before #[Value.ref b] s = true := fun w h => hts0 w (wsL_law_in w h)
  have hown : s.vm.findClass RL = some m.cls := hown
  have CF : CallFix p m c cL_law 8 s #[Value.ref b] wsL_law RL := ⟨hx, hb, hml, hown, hts⟩
  have hA : ∀ q : Nat, s.heap.size ≤ q → (fun q : Nat => s.heap.size ≤ q) q := fun _ h => h
  have hbA : ¬ (fun q : Nat => s.heap.size ≤ q) b := Nat.not_le.mpr hbl
  refine lv_aload_n hx hb dL_law_1466 rfl (lv_at hl 1 rfl) ?_
  refine lv_aload_n hx hb dL_law_1467 rfl (lv_at hl 0 rfl) ?_
  refine lv_iload hx hb dL_law_1468 (lv_at hl 4 rfl) ?_
  refine lv_iconst (v := 1) hx hb dL_law_1470 (by decide) ?_
  refine lv_iadd hx hb dL_law_1471 ?_
  refine va_sld hx hb hX hbl hbA hS (ix_1 hi hL) dL_law_1472 ?_
  refine lv_aload_n hx hb dL_law_1473 rfl (lv_at hl 3 rfl) ?_
  obtain ⟨kk, fo1, sg1, b1, r1, hC, hM, e1, e2, hR1⟩ := ag_windowItem l hl0 G ad 0 ae 0 hR (xs (nI i + 1).toNatClampNeg) ou fo
  refine caS [] ([(ou, .inl (G.2.2.2, 1, .inr (.inl fo)))] ++ (wRR G ad 0 sg)) (wMo G ae 0 r) ([(ou, .inl (G.2.2.2, 1, .inr (.inl fo1)))] ++ (wRR G ad 0 sg1)) (As := [.ref (ad 0), .int (xs (nI i + 1).toNatClampNeg), .ref ou]) (rest := []) CF hC (vx_cwSW 3 hts gL_law_L_windowItem rfl rfl rfl (by decide +kernel) ⟨Nat.le_of_ble_eq_true rfl, Nat.le_of_ble_eq_true rfl⟩) hP hD hS hA hY hZ (fst_LR _ _ _ _ _ _ _ _) rfl hl.1 rfl (lv_room (Nat.le_of_ble_eq_true rfl)) dL_law_1474 ⟨hc, hsl⟩ (fun H locs hP hD hS => ?_)
  have hP : va_P G.1 vwCl (([(ou, .inl (G.2.2.2, 1, .inr (.inl fo1)))] ++ (wRR G ad 0 sg1)) ++ wMo G ae 0 r) H := hP
  have hD : va_D (fun q : Nat => s.heap.size ≤ q) (([(ou, .inl (G.2.2.2, 1, .inr (.inl fo1)))] ++ (wRR G ad 0 sg1)) ++ wMo G ae 0 r) := hD
  refine lv_istore (lv' := [(5, .int kk), (0, .ref b), (1, .ref (ad 0)), (2, .ref (ae 0)), (3, .ref ou), (4, .int (nI i))]) hx hb dL_law_1477 hl (by decide) rfl (fun ls hl => ?_)
  refine lv_aload_n hx hb dL_law_1479 rfl (lv_at hl 3 rfl) ?_
  refine lv_aload_n hx hb dL_law_1480 rfl (lv_at hl 1 rfl) ?_
  refine lv_iload hx hb dL_law_1481 (lv_at hl 5 rfl) ?_
  refine lv_iconst (v := 1) hx hb dL_law_1483 (by decide) ?_
  refine lv_iadd hx hb dL_law_1484 ?_
  refine va_sld hx hb hX hbl hbA hS (ix_1 hi hL) dL_law_1485 ?_
  rw [← List.append_nil (wMo G ae 0 r)] at hP hD
  refine wrV ([(ou, .inl (G.2.2.2, 1, .inr (.inl fo1)))] ++ (wRR G ad 0 sg1)) (wMo G ae 0 r) [] (wMo G ae 0 r1) (As := [.int (xs (nI i + 1).toNatClampNeg)]) (rest := []) CF hM (cwV 1 hts gL_law_X7_windowItem rfl rfl rfl (by decide +kernel) ⟨Nat.le_of_ble_eq_true rfl, Nat.le_of_ble_eq_true rfl⟩) hP hD hS hA hY rfl rfl (fst_Mo _ _ _ _ _) rfl hl.1 rfl (lv_room (Nat.le_of_ble_eq_true rfl)) dL_law_1486 ⟨(show cells + 1 ≤ 1108 from hc), (show slots + 6 ≤ 14071 from hsl)⟩ (fun H locs hP hD hS => ?_)
  rw [List.append_nil] at hP hD
  refine lv_istore (lv' := [(6, .int b1), (5, .int kk), (0, .ref b), (1, .ref (ad 0)), (2, .ref (ae 0)), (3, .ref ou), (4, .int (nI i))]) hx hb dL_law_1489 hl (by decide) rfl (fun ls hl => ?_)
  refine lv_aload_n hx hb dL_law_1491 rfl (lv_at hl 4 rfl) ?_
  refine rdV (w0 := (wMo G ae 0 r1)) (As := []) (rest := []) CF (k_X7_thrown l G ae 0 r1) (cwV 0 hts gL_law_X7_thrown rfl rfl rfl (by decide +kernel) ⟨Nat.le_of_ble_eq_true rfl, Nat.le_of_ble_eq_true rfl⟩) hP.apr hY rfl rfl rfl hl.1 rfl (lv_room (Nat.le_of_ble_eq_true rfl)) dL_law_1492 ⟨(show cells + 1 ≤ 1108 from hc), (show slots + 6 ≤ 14071 from hsl)⟩ ?_
  refine lv_iload hx hb dL_law_1495 (lv_at hl 1 rfl) ?_
  refine lv_icmp_eq (tgt := 1502) hx hb dL_law_1497 (by decide) (fun _ => ?_) (fun hh => absurd e1 hh)
  refine lv_iload hx hb dL_law_1502 (lv_at hl 1 rfl) ?_
  refine lv_if_ne (tgt := 1519) hx hb dL_law_1504 (by decide) (fun _ => ?_) (fun hk => ?_)
  · refine lv_goto (tgt := 1690) hx hb dL_law_1519 (by decide) ?_
    exact next sg1 r1 fo1 H locs ls hR1 hP hD hS (lv_sub hl [2, 3, 4, 5, 6] rfl)
  refine lv_aload_n hx hb dL_law_1507 rfl (lv_at hl 5 rfl) ?_
  refine lv_iconst (v := 0) hx hb dL_law_1508 (by decide) ?_
  refine va_lald hx hb hY.1 hP 0 2 rfl rfl vp_0_1 dL_law_1509 ?_
  refine lv_iload hx hb dL_law_1510 (lv_at hl 0 rfl) ?_
  refine lv_i2l hx hb dL_law_1512 rfl ?_
  refine W.lcmp hx hb dL_law_1513 ?_
  refine lv_if_eq (tgt := 1519) hx hb dL_law_1514 (by decide) (fun _ => ?_) (fun hh => absurd ((lg_cmp_eq _ _).mpr (e2 hk)) hh)
  refine lv_goto (tgt := 1690) hx hb dL_law_1519 (by decide) ?_
  exact next sg1 r1 fo1 H locs ls hR1 hP hD hS (lv_sub hl [2, 3, 4, 5, 6] rfl)

set_option maxHeartbeats 4000000 in
set_option maxRecDepth 100000 in
theorem lc_windowPosition {p : Program} {l : Launch} {e : Env} {s : State} {m : MethodId} {below : List Frame} {meth : Method} {c : Code} {G : GT} {b L : Nat} {xs : Nat → Int32} {Q : State → Prop} (C : LawAt p l s m meth c b L xs G) {i : Nat} (hi : i + 7 ≤ L) {ad ae : Nat → Nat} {ou : Nat} {sg : RRT} {r : MoT} {fo : Nat → Int64} (hR : Rel sg r) {H : Heap} {locs : List Loc} {cells slots : Nat} (hc : cells + 1 ≤ 1108) (hsl : slots + 6 ≤ 14071) (hP : va_P G.1 vwCl (([(ou, .inl (G.2.2.2, 1, .inr (.inl fo)))] ++ (wRR G ad 0 sg)) ++ wMo G ae 0 r) H) (hD : va_D (fun q : Nat => s.heap.size ≤ q) (([(ou, .inl (G.2.2.2, 1, .inr (.inl fo)))] ++ (wRR G ad 0 sg)) ++ wMo G ae 0 r)) (hS : va_S (fun q : Nat => s.heap.size ≤ q) s.heap H locs) {ls : Array Slot} (hl : lv_has ls 8 [(0, .ref b), (1, .ref (ad 0)), (2, .ref (ae 0)), (3, .ref ou), (4, .int (nI i))])
    (next : ∀ (sg : RRT) (r : MoT) (fo : Nat → Int64) (H : Heap) (locs : List Loc) (ls : Array Slot), Rel sg r → va_P G.1 vwCl (([(ou, .inl (G.2.2.2, 1, .inr (.inl fo)))] ++ (wRR G ad 0 sg)) ++ wMo G ae 0 r) H → va_D (fun q : Nat => s.heap.size ≤ q) (([(ou, .inl (G.2.2.2, 1, .inr (.inl fo)))] ++ (wRR G ad 0 sg)) ++ wMo G ae 0 r) → va_S (fun q : Nat => s.heap.size ≤ q) s.heap H locs → lv_has ls 8 [(0, .ref b), (1, .ref (ad 0)), (2, .ref (ae 0)), (3, .ref ou), (4, .int (nI i))] → W p l e room_1 s m #[Value.ref b] below meth c H locs (cells + 1) (slots + 6) Q (F0 m 1690 ls [])) :
    W p l e room_1 s m #[Value.ref b] below meth c H locs cells slots Q (F0 m 1522 ls []) := by
  obtain ⟨⟨hx, hb, hr, hml, hown, hts0, hX, hbl, hlocks, hgv⟩, hl0, hY, hZ, hL⟩ := C
  have hts : ∀ w ∈ wsL_law, w.before #[Value.ref b] s = true := fun w h => hts0 w (wsL_law_in w h)
  have hown : s.vm.findClass RL = some m.cls := hown
  have CF : CallFix p m c cL_law 8 s #[Value.ref b] wsL_law RL := ⟨hx, hb, hml, hown, hts⟩
  have hA : ∀ q : Nat, s.heap.size ≤ q → (fun q : Nat => s.heap.size ≤ q) q := fun _ h => h
  have hbA : ¬ (fun q : Nat => s.heap.size ≤ q) b := Nat.not_le.mpr hbl
  refine lv_aload_n hx hb dL_law_1522 rfl (lv_at hl 1 rfl) ?_
  refine lv_aload_n hx hb dL_law_1523 rfl (lv_at hl 0 rfl) ?_
  refine lv_iload hx hb dL_law_1524 (lv_at hl 4 rfl) ?_
  refine lv_iconst (v := 1) hx hb dL_law_1526 (by decide) ?_
  refine lv_iadd hx hb dL_law_1527 ?_
  refine va_sld hx hb hX hbl hbA hS (ix_1 hi hL) dL_law_1528 ?_
  refine lv_aload_n hx hb dL_law_1529 rfl (lv_at hl 3 rfl) ?_
  obtain ⟨kk, fo1, sg1, b1, r1, hC, hM, e1, e2, hR1⟩ := ag_windowPosition l hl0 G ad 0 ae 0 hR (xs (nI i + 1).toNatClampNeg) ou fo
  refine caS [] ([(ou, .inl (G.2.2.2, 1, .inr (.inl fo)))] ++ (wRR G ad 0 sg)) (wMo G ae 0 r) ([(ou, .inl (G.2.2.2, 1, .inr (.inl fo1)))] ++ (wRR G ad 0 sg1)) (As := [.ref (ad 0), .int (xs (nI i + 1).toNatClampNeg), .ref ou]) (rest := []) CF hC (vx_cwSW 3 hts gL_law_L_windowPosition rfl rfl rfl (by decide +kernel) ⟨Nat.le_of_ble_eq_true rfl, Nat.le_of_ble_eq_true rfl⟩) hP hD hS hA hY hZ (fst_LR _ _ _ _ _ _ _ _) rfl hl.1 rfl (lv_room (Nat.le_of_ble_eq_true rfl)) dL_law_1530 ⟨hc, hsl⟩ (fun H locs hP hD hS => ?_)
  have hP : va_P G.1 vwCl (([(ou, .inl (G.2.2.2, 1, .inr (.inl fo1)))] ++ (wRR G ad 0 sg1)) ++ wMo G ae 0 r) H := hP
  have hD : va_D (fun q : Nat => s.heap.size ≤ q) (([(ou, .inl (G.2.2.2, 1, .inr (.inl fo1)))] ++ (wRR G ad 0 sg1)) ++ wMo G ae 0 r) := hD
  refine lv_istore (lv' := [(5, .int kk), (0, .ref b), (1, .ref (ad 0)), (2, .ref (ae 0)), (3, .ref ou), (4, .int (nI i))]) hx hb dL_law_1533 hl (by decide) rfl (fun ls hl => ?_)
  refine lv_aload_n hx hb dL_law_1535 rfl (lv_at hl 3 rfl) ?_
  refine lv_aload_n hx hb dL_law_1536 rfl (lv_at hl 1 rfl) ?_
  refine lv_iload hx hb dL_law_1537 (lv_at hl 5 rfl) ?_
  refine lv_iconst (v := 1) hx hb dL_law_1539 (by decide) ?_
  refine lv_iadd hx hb dL_law_1540 ?_
  refine va_sld hx hb hX hbl hbA hS (ix_1 hi hL) dL_law_1541 ?_
  rw [← List.append_nil (wMo G ae 0 r)] at hP hD
  refine wrV ([(ou, .inl (G.2.2.2, 1, .inr (.inl fo1)))] ++ (wRR G ad 0 sg1)) (wMo G ae 0 r) [] (wMo G ae 0 r1) (As := [.int (xs (nI i + 1).toNatClampNeg)]) (rest := []) CF hM (cwV 1 hts gL_law_X7_windowPosition rfl rfl rfl (by decide +kernel) ⟨Nat.le_of_ble_eq_true rfl, Nat.le_of_ble_eq_true rfl⟩) hP hD hS hA hY rfl rfl (fst_Mo _ _ _ _ _) rfl hl.1 rfl (lv_room (Nat.le_of_ble_eq_true rfl)) dL_law_1542 ⟨(show cells + 1 ≤ 1108 from hc), (show slots + 6 ≤ 14071 from hsl)⟩ (fun H locs hP hD hS => ?_)
  rw [List.append_nil] at hP hD
  refine lv_istore (lv' := [(6, .int b1), (5, .int kk), (0, .ref b), (1, .ref (ad 0)), (2, .ref (ae 0)), (3, .ref ou), (4, .int (nI i))]) hx hb dL_law_1545 hl (by decide) rfl (fun ls hl => ?_)
  refine lv_aload_n hx hb dL_law_1547 rfl (lv_at hl 4 rfl) ?_
  refine rdV (w0 := (wMo G ae 0 r1)) (As := []) (rest := []) CF (k_X7_thrown l G ae 0 r1) (cwV 0 hts gL_law_X7_thrown rfl rfl rfl (by decide +kernel) ⟨Nat.le_of_ble_eq_true rfl, Nat.le_of_ble_eq_true rfl⟩) hP.apr hY rfl rfl rfl hl.1 rfl (lv_room (Nat.le_of_ble_eq_true rfl)) dL_law_1548 ⟨(show cells + 1 ≤ 1108 from hc), (show slots + 6 ≤ 14071 from hsl)⟩ ?_
  refine lv_iload hx hb dL_law_1551 (lv_at hl 1 rfl) ?_
  refine lv_icmp_eq (tgt := 1558) hx hb dL_law_1553 (by decide) (fun _ => ?_) (fun hh => absurd e1 hh)
  refine lv_iload hx hb dL_law_1558 (lv_at hl 1 rfl) ?_
  refine lv_if_ne (tgt := 1575) hx hb dL_law_1560 (by decide) (fun _ => ?_) (fun hk => ?_)
  · refine lv_goto (tgt := 1690) hx hb dL_law_1575 (by decide) ?_
    exact next sg1 r1 fo1 H locs ls hR1 hP hD hS (lv_sub hl [2, 3, 4, 5, 6] rfl)
  refine lv_aload_n hx hb dL_law_1563 rfl (lv_at hl 5 rfl) ?_
  refine lv_iconst (v := 0) hx hb dL_law_1564 (by decide) ?_
  refine va_lald hx hb hY.1 hP 0 2 rfl rfl vp_0_1 dL_law_1565 ?_
  refine lv_iload hx hb dL_law_1566 (lv_at hl 0 rfl) ?_
  refine lv_i2l hx hb dL_law_1568 rfl ?_
  refine W.lcmp hx hb dL_law_1569 ?_
  refine lv_if_eq (tgt := 1575) hx hb dL_law_1570 (by decide) (fun _ => ?_) (fun hh => absurd ((lg_cmp_eq _ _).mpr (e2 hk)) hh)
  refine lv_goto (tgt := 1690) hx hb dL_law_1575 (by decide) ?_
  exact next sg1 r1 fo1 H locs ls hR1 hP hD hS (lv_sub hl [2, 3, 4, 5, 6] rfl)

set_option maxHeartbeats 4000000 in
set_option maxRecDepth 100000 in
theorem lc_chainLength {p : Program} {l : Launch} {e : Env} {s : State} {m : MethodId} {below : List Frame} {meth : Method} {c : Code} {G : GT} {b L : Nat} {xs : Nat → Int32} {Q : State → Prop} (C : LawAt p l s m meth c b L xs G) {i : Nat} (hi : i + 7 ≤ L) {ad ae : Nat → Nat} {ou : Nat} {sg : RRT} {r : MoT} {fo : Nat → Int64} (hR : Rel sg r) {H : Heap} {locs : List Loc} {cells slots : Nat} (hc : cells + 1 ≤ 1108) (hsl : slots + 6 ≤ 14071) (hP : va_P G.1 vwCl (([(ou, .inl (G.2.2.2, 1, .inr (.inl fo)))] ++ (wRR G ad 0 sg)) ++ wMo G ae 0 r) H) (hD : va_D (fun q : Nat => s.heap.size ≤ q) (([(ou, .inl (G.2.2.2, 1, .inr (.inl fo)))] ++ (wRR G ad 0 sg)) ++ wMo G ae 0 r)) (hS : va_S (fun q : Nat => s.heap.size ≤ q) s.heap H locs) {ls : Array Slot} (hl : lv_has ls 8 [(0, .ref b), (1, .ref (ad 0)), (2, .ref (ae 0)), (3, .ref ou), (4, .int (nI i))])
    (next : ∀ (sg : RRT) (r : MoT) (fo : Nat → Int64) (H : Heap) (locs : List Loc) (ls : Array Slot), Rel sg r → va_P G.1 vwCl (([(ou, .inl (G.2.2.2, 1, .inr (.inl fo)))] ++ (wRR G ad 0 sg)) ++ wMo G ae 0 r) H → va_D (fun q : Nat => s.heap.size ≤ q) (([(ou, .inl (G.2.2.2, 1, .inr (.inl fo)))] ++ (wRR G ad 0 sg)) ++ wMo G ae 0 r) → va_S (fun q : Nat => s.heap.size ≤ q) s.heap H locs → lv_has ls 8 [(0, .ref b), (1, .ref (ad 0)), (2, .ref (ae 0)), (3, .ref ou), (4, .int (nI i))] → W p l e room_1 s m #[Value.ref b] below meth c H locs (cells + 1) (slots + 6) Q (F0 m 1690 ls [])) :
    W p l e room_1 s m #[Value.ref b] below meth c H locs cells slots Q (F0 m 1578 ls []) := by
  obtain ⟨⟨hx, hb, hr, hml, hown, hts0, hX, hbl, hlocks, hgv⟩, hl0, hY, hZ, hL⟩ := C
  have hts : ∀ w ∈ wsL_law, w.before #[Value.ref b] s = true := fun w h => hts0 w (wsL_law_in w h)
  have hown : s.vm.findClass RL = some m.cls := hown
  have CF : CallFix p m c cL_law 8 s #[Value.ref b] wsL_law RL := ⟨hx, hb, hml, hown, hts⟩
  have hA : ∀ q : Nat, s.heap.size ≤ q → (fun q : Nat => s.heap.size ≤ q) q := fun _ h => h
  have hbA : ¬ (fun q : Nat => s.heap.size ≤ q) b := Nat.not_le.mpr hbl
  refine lv_aload_n hx hb dL_law_1578 rfl (lv_at hl 1 rfl) ?_
  refine lv_aload_n hx hb dL_law_1579 rfl (lv_at hl 0 rfl) ?_
  refine lv_iload hx hb dL_law_1580 (lv_at hl 4 rfl) ?_
  refine lv_iconst (v := 1) hx hb dL_law_1582 (by decide) ?_
  refine lv_iadd hx hb dL_law_1583 ?_
  refine va_sld hx hb hX hbl hbA hS (ix_1 hi hL) dL_law_1584 ?_
  refine lv_aload_n hx hb dL_law_1585 rfl (lv_at hl 3 rfl) ?_
  obtain ⟨kk, fo1, sg1, b1, r1, hC, hM, e1, e2, hR1⟩ := ag_chainLength l hl0 G ad 0 ae 0 hR (xs (nI i + 1).toNatClampNeg) ou fo
  refine caS [] ([(ou, .inl (G.2.2.2, 1, .inr (.inl fo)))] ++ (wRR G ad 0 sg)) (wMo G ae 0 r) ([(ou, .inl (G.2.2.2, 1, .inr (.inl fo1)))] ++ (wRR G ad 0 sg1)) (As := [.ref (ad 0), .int (xs (nI i + 1).toNatClampNeg), .ref ou]) (rest := []) CF hC (vx_cwSW 3 hts gL_law_L_chainLength rfl rfl rfl (by decide +kernel) ⟨Nat.le_of_ble_eq_true rfl, Nat.le_of_ble_eq_true rfl⟩) hP hD hS hA hY hZ (fst_LR _ _ _ _ _ _ _ _) rfl hl.1 rfl (lv_room (Nat.le_of_ble_eq_true rfl)) dL_law_1586 ⟨hc, hsl⟩ (fun H locs hP hD hS => ?_)
  have hP : va_P G.1 vwCl (([(ou, .inl (G.2.2.2, 1, .inr (.inl fo1)))] ++ (wRR G ad 0 sg1)) ++ wMo G ae 0 r) H := hP
  have hD : va_D (fun q : Nat => s.heap.size ≤ q) (([(ou, .inl (G.2.2.2, 1, .inr (.inl fo1)))] ++ (wRR G ad 0 sg1)) ++ wMo G ae 0 r) := hD
  refine lv_istore (lv' := [(5, .int kk), (0, .ref b), (1, .ref (ad 0)), (2, .ref (ae 0)), (3, .ref ou), (4, .int (nI i))]) hx hb dL_law_1589 hl (by decide) rfl (fun ls hl => ?_)
  refine lv_aload_n hx hb dL_law_1591 rfl (lv_at hl 3 rfl) ?_
  refine lv_aload_n hx hb dL_law_1592 rfl (lv_at hl 1 rfl) ?_
  refine lv_iload hx hb dL_law_1593 (lv_at hl 5 rfl) ?_
  refine lv_iconst (v := 1) hx hb dL_law_1595 (by decide) ?_
  refine lv_iadd hx hb dL_law_1596 ?_
  refine va_sld hx hb hX hbl hbA hS (ix_1 hi hL) dL_law_1597 ?_
  rw [← List.append_nil (wMo G ae 0 r)] at hP hD
  refine wrV ([(ou, .inl (G.2.2.2, 1, .inr (.inl fo1)))] ++ (wRR G ad 0 sg1)) (wMo G ae 0 r) [] (wMo G ae 0 r1) (As := [.int (xs (nI i + 1).toNatClampNeg)]) (rest := []) CF hM (cwV 1 hts gL_law_X7_chainLength rfl rfl rfl (by decide +kernel) ⟨Nat.le_of_ble_eq_true rfl, Nat.le_of_ble_eq_true rfl⟩) hP hD hS hA hY rfl rfl (fst_Mo _ _ _ _ _) rfl hl.1 rfl (lv_room (Nat.le_of_ble_eq_true rfl)) dL_law_1598 ⟨(show cells + 1 ≤ 1108 from hc), (show slots + 6 ≤ 14071 from hsl)⟩ (fun H locs hP hD hS => ?_)
  rw [List.append_nil] at hP hD
  refine lv_istore (lv' := [(6, .int b1), (5, .int kk), (0, .ref b), (1, .ref (ad 0)), (2, .ref (ae 0)), (3, .ref ou), (4, .int (nI i))]) hx hb dL_law_1601 hl (by decide) rfl (fun ls hl => ?_)
  refine lv_aload_n hx hb dL_law_1603 rfl (lv_at hl 4 rfl) ?_
  refine rdV (w0 := (wMo G ae 0 r1)) (As := []) (rest := []) CF (k_X7_thrown l G ae 0 r1) (cwV 0 hts gL_law_X7_thrown rfl rfl rfl (by decide +kernel) ⟨Nat.le_of_ble_eq_true rfl, Nat.le_of_ble_eq_true rfl⟩) hP.apr hY rfl rfl rfl hl.1 rfl (lv_room (Nat.le_of_ble_eq_true rfl)) dL_law_1604 ⟨(show cells + 1 ≤ 1108 from hc), (show slots + 6 ≤ 14071 from hsl)⟩ ?_
  refine lv_iload hx hb dL_law_1607 (lv_at hl 1 rfl) ?_
  refine lv_icmp_eq (tgt := 1614) hx hb dL_law_1609 (by decide) (fun _ => ?_) (fun hh => absurd e1 hh)
  refine lv_iload hx hb dL_law_1614 (lv_at hl 1 rfl) ?_
  refine lv_if_ne (tgt := 1631) hx hb dL_law_1616 (by decide) (fun _ => ?_) (fun hk => ?_)
  · refine lv_goto (tgt := 1690) hx hb dL_law_1631 (by decide) ?_
    exact next sg1 r1 fo1 H locs ls hR1 hP hD hS (lv_sub hl [2, 3, 4, 5, 6] rfl)
  refine lv_aload_n hx hb dL_law_1619 rfl (lv_at hl 5 rfl) ?_
  refine lv_iconst (v := 0) hx hb dL_law_1620 (by decide) ?_
  refine va_lald hx hb hY.1 hP 0 2 rfl rfl vp_0_1 dL_law_1621 ?_
  refine lv_iload hx hb dL_law_1622 (lv_at hl 0 rfl) ?_
  refine lv_i2l hx hb dL_law_1624 rfl ?_
  refine W.lcmp hx hb dL_law_1625 ?_
  refine lv_if_eq (tgt := 1631) hx hb dL_law_1626 (by decide) (fun _ => ?_) (fun hh => absurd ((lg_cmp_eq _ _).mpr (e2 hk)) hh)
  refine lv_goto (tgt := 1690) hx hb dL_law_1631 (by decide) ?_
  exact next sg1 r1 fo1 H locs ls hR1 hP hD hS (lv_sub hl [2, 3, 4, 5, 6] rfl)

set_option maxHeartbeats 4000000 in
set_option maxRecDepth 100000 in
theorem lc_successor {p : Program} {l : Launch} {e : Env} {s : State} {m : MethodId} {below : List Frame} {meth : Method} {c : Code} {G : GT} {b L : Nat} {xs : Nat → Int32} {Q : State → Prop} (C : LawAt p l s m meth c b L xs G) {i : Nat} (hi : i + 7 ≤ L) {ad ae : Nat → Nat} {ou : Nat} {sg : RRT} {r : MoT} {fo : Nat → Int64} (hR : Rel sg r) {H : Heap} {locs : List Loc} {cells slots : Nat} (hc : cells + 1 ≤ 1108) (hsl : slots + 6 ≤ 14071) (hP : va_P G.1 vwCl (([(ou, .inl (G.2.2.2, 1, .inr (.inl fo)))] ++ (wRR G ad 0 sg)) ++ wMo G ae 0 r) H) (hD : va_D (fun q : Nat => s.heap.size ≤ q) (([(ou, .inl (G.2.2.2, 1, .inr (.inl fo)))] ++ (wRR G ad 0 sg)) ++ wMo G ae 0 r)) (hS : va_S (fun q : Nat => s.heap.size ≤ q) s.heap H locs) {ls : Array Slot} (hl : lv_has ls 8 [(0, .ref b), (1, .ref (ad 0)), (2, .ref (ae 0)), (3, .ref ou), (4, .int (nI i))])
    (next : ∀ (sg : RRT) (r : MoT) (fo : Nat → Int64) (H : Heap) (locs : List Loc) (ls : Array Slot), Rel sg r → va_P G.1 vwCl (([(ou, .inl (G.2.2.2, 1, .inr (.inl fo)))] ++ (wRR G ad 0 sg)) ++ wMo G ae 0 r) H → va_D (fun q : Nat => s.heap.size ≤ q) (([(ou, .inl (G.2.2.2, 1, .inr (.inl fo)))] ++ (wRR G ad 0 sg)) ++ wMo G ae 0 r) → va_S (fun q : Nat => s.heap.size ≤ q) s.heap H locs → lv_has ls 8 [(0, .ref b), (1, .ref (ad 0)), (2, .ref (ae 0)), (3, .ref ou), (4, .int (nI i))] → W p l e room_1 s m #[Value.ref b] below meth c H locs (cells + 1) (slots + 6) Q (F0 m 1690 ls [])) :
    W p l e room_1 s m #[Value.ref b] below meth c H locs cells slots Q (F0 m 1634 ls []) := by
  obtain ⟨⟨hx, hb, hr, hml, hown, hts0, hX, hbl, hlocks, hgv⟩, hl0, hY, hZ, hL⟩ := C
  have hts : ∀ w ∈ wsL_law, w.before #[Value.ref b] s = true := fun w h => hts0 w (wsL_law_in w h)
  have hown : s.vm.findClass RL = some m.cls := hown
  have CF : CallFix p m c cL_law 8 s #[Value.ref b] wsL_law RL := ⟨hx, hb, hml, hown, hts⟩
  have hA : ∀ q : Nat, s.heap.size ≤ q → (fun q : Nat => s.heap.size ≤ q) q := fun _ h => h
  have hbA : ¬ (fun q : Nat => s.heap.size ≤ q) b := Nat.not_le.mpr hbl
  refine lv_aload_n hx hb dL_law_1634 rfl (lv_at hl 1 rfl) ?_
  refine lv_aload_n hx hb dL_law_1635 rfl (lv_at hl 0 rfl) ?_
  refine lv_iload hx hb dL_law_1636 (lv_at hl 4 rfl) ?_
  refine lv_iconst (v := 1) hx hb dL_law_1638 (by decide) ?_
  refine lv_iadd hx hb dL_law_1639 ?_
  refine va_sld hx hb hX hbl hbA hS (ix_1 hi hL) dL_law_1640 ?_
  refine lv_aload_n hx hb dL_law_1641 rfl (lv_at hl 3 rfl) ?_
  obtain ⟨kk, fo1, sg1, b1, r1, hC, hM, e1, e2, hR1⟩ := ag_successor l hl0 G ad 0 ae 0 hR (xs (nI i + 1).toNatClampNeg) ou fo
  refine caS [] ([(ou, .inl (G.2.2.2, 1, .inr (.inl fo)))] ++ (wRR G ad 0 sg)) (wMo G ae 0 r) ([(ou, .inl (G.2.2.2, 1, .inr (.inl fo1)))] ++ (wRR G ad 0 sg1)) (As := [.ref (ad 0), .int (xs (nI i + 1).toNatClampNeg), .ref ou]) (rest := []) CF hC (vx_cwSW 3 hts gL_law_L_successor rfl rfl rfl (by decide +kernel) ⟨Nat.le_of_ble_eq_true rfl, Nat.le_of_ble_eq_true rfl⟩) hP hD hS hA hY hZ (fst_LR _ _ _ _ _ _ _ _) rfl hl.1 rfl (lv_room (Nat.le_of_ble_eq_true rfl)) dL_law_1642 ⟨hc, hsl⟩ (fun H locs hP hD hS => ?_)
  have hP : va_P G.1 vwCl (([(ou, .inl (G.2.2.2, 1, .inr (.inl fo1)))] ++ (wRR G ad 0 sg1)) ++ wMo G ae 0 r) H := hP
  have hD : va_D (fun q : Nat => s.heap.size ≤ q) (([(ou, .inl (G.2.2.2, 1, .inr (.inl fo1)))] ++ (wRR G ad 0 sg1)) ++ wMo G ae 0 r) := hD
  refine lv_istore (lv' := [(5, .int kk), (0, .ref b), (1, .ref (ad 0)), (2, .ref (ae 0)), (3, .ref ou), (4, .int (nI i))]) hx hb dL_law_1645 hl (by decide) rfl (fun ls hl => ?_)
  refine lv_aload_n hx hb dL_law_1647 rfl (lv_at hl 3 rfl) ?_
  refine lv_aload_n hx hb dL_law_1648 rfl (lv_at hl 1 rfl) ?_
  refine lv_iload hx hb dL_law_1649 (lv_at hl 5 rfl) ?_
  refine lv_iconst (v := 1) hx hb dL_law_1651 (by decide) ?_
  refine lv_iadd hx hb dL_law_1652 ?_
  refine va_sld hx hb hX hbl hbA hS (ix_1 hi hL) dL_law_1653 ?_
  rw [← List.append_nil (wMo G ae 0 r)] at hP hD
  refine wrV ([(ou, .inl (G.2.2.2, 1, .inr (.inl fo1)))] ++ (wRR G ad 0 sg1)) (wMo G ae 0 r) [] (wMo G ae 0 r1) (As := [.int (xs (nI i + 1).toNatClampNeg)]) (rest := []) CF hM (cwV 1 hts gL_law_X7_successor rfl rfl rfl (by decide +kernel) ⟨Nat.le_of_ble_eq_true rfl, Nat.le_of_ble_eq_true rfl⟩) hP hD hS hA hY rfl rfl (fst_Mo _ _ _ _ _) rfl hl.1 rfl (lv_room (Nat.le_of_ble_eq_true rfl)) dL_law_1654 ⟨(show cells + 1 ≤ 1108 from hc), (show slots + 6 ≤ 14071 from hsl)⟩ (fun H locs hP hD hS => ?_)
  rw [List.append_nil] at hP hD
  refine lv_istore (lv' := [(6, .int b1), (5, .int kk), (0, .ref b), (1, .ref (ad 0)), (2, .ref (ae 0)), (3, .ref ou), (4, .int (nI i))]) hx hb dL_law_1657 hl (by decide) rfl (fun ls hl => ?_)
  refine lv_aload_n hx hb dL_law_1659 rfl (lv_at hl 4 rfl) ?_
  refine rdV (w0 := (wMo G ae 0 r1)) (As := []) (rest := []) CF (k_X7_thrown l G ae 0 r1) (cwV 0 hts gL_law_X7_thrown rfl rfl rfl (by decide +kernel) ⟨Nat.le_of_ble_eq_true rfl, Nat.le_of_ble_eq_true rfl⟩) hP.apr hY rfl rfl rfl hl.1 rfl (lv_room (Nat.le_of_ble_eq_true rfl)) dL_law_1660 ⟨(show cells + 1 ≤ 1108 from hc), (show slots + 6 ≤ 14071 from hsl)⟩ ?_
  refine lv_iload hx hb dL_law_1663 (lv_at hl 1 rfl) ?_
  refine lv_icmp_eq (tgt := 1670) hx hb dL_law_1665 (by decide) (fun _ => ?_) (fun hh => absurd e1 hh)
  refine lv_iload hx hb dL_law_1670 (lv_at hl 1 rfl) ?_
  refine lv_if_ne (tgt := 1687) hx hb dL_law_1672 (by decide) (fun _ => ?_) (fun hk => ?_)
  · refine lv_goto (tgt := 1690) hx hb dL_law_1687 (by decide) ?_
    exact next sg1 r1 fo1 H locs ls hR1 hP hD hS (lv_sub hl [2, 3, 4, 5, 6] rfl)
  refine lv_aload_n hx hb dL_law_1675 rfl (lv_at hl 5 rfl) ?_
  refine lv_iconst (v := 0) hx hb dL_law_1676 (by decide) ?_
  refine va_lald hx hb hY.1 hP 0 2 rfl rfl vp_0_1 dL_law_1677 ?_
  refine lv_iload hx hb dL_law_1678 (lv_at hl 0 rfl) ?_
  refine lv_i2l hx hb dL_law_1680 rfl ?_
  refine W.lcmp hx hb dL_law_1681 ?_
  refine lv_if_eq (tgt := 1687) hx hb dL_law_1682 (by decide) (fun _ => ?_) (fun hh => absurd ((lg_cmp_eq _ _).mpr (e2 hk)) hh)
  refine lv_goto (tgt := 1690) hx hb dL_law_1687 (by decide) ?_
  exact next sg1 r1 fo1 H locs ls hR1 hP hD hS (lv_sub hl [2, 3, 4, 5, 6] rfl)
