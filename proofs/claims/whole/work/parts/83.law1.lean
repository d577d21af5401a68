set_option maxHeartbeats 4000000 in
set_option maxRecDepth 100000 in
theorem lc_reservoirItem {p : Program} {l : Launch} {e : Env} {s : State} {m : MethodId} {below : List Frame} {meth : Method} {c : Code} {G : GT} {b L : Nat} {xs : Nat → Int32} {Q : State → Prop} (C : LawAt p l s m meth c b L xs G) {i : Nat} (hi : i + 7 ≤ L) {ad ae : Nat → Nat} {ou : Nat} {sg : RRT} {r : MoT} {fo : Nat → Int64} (hR : Rel sg r) {H : Heap} {locs : List Loc} {cells slots : Nat} (hc : cells + 1 ≤ 1108) (hsl : slots + 6 ≤ 14071) (hP : va_P G.1 vwCl (([(ou, .inl (G.2.2.2, 1, .inr (.inl fo)))] ++ (wRR G ad 0 sg)) ++ wMo G ae 0 r) H) (hD : va_D (fun q : Nat => s.heap.size ≤ q) (([(ou, .inl (G.2.2.2, 1, .inr (.inl fo)))] ++ (wRR G ad 0 sg)) ++ wMo G ae 0 r)) (hS : va_S (fun q : Nat => s.heap.size ≤ q) s.heap H locs) {ls : Array Slot} (hl : lv_has ls 8 [(0, .ref b), (1, .ref (ad 0)), (2, .ref (ae 0)), (3, .ref ou), (4, .int (nI i))])
    (next : ∀ (sg : RRT) (r : MoT) (fo : Nat → Int64) (H : Heap) (locs : List Loc) (ls : Array Slot), Rel sg r → va_P G.1 vwCl (([(ou, .inl (G.2.2.2, 1, .inr (.inl fo)))] ++ (wRR G ad 0 sg)) ++ wMo G ae 0 r) H → va_D (fun q : Nat => s.heap.size ≤ q) (([(ou, .inl (G.2.2.2, 1, .inr (.inl fo)))] ++ (wRR G ad 0 sg)) ++ wMo G ae 0 r) → va_S (fun q : Nat => s.heap.size ≤ q) s.heap H locs → lv_has ls 8 [(0, .ref b), (1, .ref (ad 0)), (2, .ref (ae 0)), (3, .ref ou), (4, .int (nI i))] → W p l e room_1 s m #[Value.ref b] below meth c H locs (cells + 1) (slots + 6) Q (F0 m 1690 ls [])) :
    W p l e room_1 s m #[Value.ref b] below meth c H locs cells slots Q (F0 m 554 ls []) := by
  obtain ⟨⟨hx, hb, hr, hml, hown, hts0, hX, hbl, hlocks, hgv⟩, hl0, hY, hZ, hL⟩ := C
  have hts : ∀ w ∈ wsL_law, w.before #[Value.ref b] s = true := fun w h => hts0 w (wsL_law_in w h)
  have hown : s.vm.findClass RL = some m.cls := hown
  have CF : CallFix p m c cL_law 8 s #[Value.ref b] wsL_law RL := ⟨hx, hb, hml, hown, hts⟩
  have hA : ∀ q : Nat, s.heap.size ≤ q → (fun q : Nat => s.heap.size ≤ q) q := fun _ h => h
  have hbA : ¬ (fun q : Nat => s.heap.size ≤ q) b := Nat.not_le.mpr hbl
  refine lv_aload_n hx hb dL_law_554 rfl (lv_at hl 1 rfl) ?_
  refine lv_aload_n hx hb dL_law_555 rfl (lv_at hl 0 rfl) ?_
  refine lv_iload hx hb dL_law_556 (lv_at hl 4 rfl) ?_
  refine lv_iconst (v := 1) hx hb dL_law_558 (by decide) ?_
  refine lv_iadd hx hb dL_law_559 ?_
  refine va_sld hx hb hX hbl hbA hS (ix_1 hi hL) dL_law_560 ?_
  refine lv_aload_n hx hb dL_law_561 rfl (lv_at hl 0 rfl) ?_
  refine lv_iload hx hb dL_law_562 (lv_at hl 4 rfl) ?_
  refine lv_iconst (v := 2) hx hb dL_law_564 (by decide) ?_
  refine lv_iadd hx hb dL_law_565 ?_
  refine va_sld hx hb hX hbl hbA hS (ix_2 hi hL) dL_law_566 ?_
  refine lv_aload_n hx hb dL_law_567 rfl (lv_at hl 3 rfl) ?_
  obtain ⟨kk, fo1, sg1, b1, r1, hC, hM, e1, e2, hR1⟩ := ag_reservoirItem l hl0 G ad 0 ae 0 hR (xs (nI i + 1).toNatClampNeg) (xs (nI i + 2).toNatClampNeg) ou fo
  refine caS [] ([(ou, .inl (G.2.2.2, 1, .inr (.inl fo)))] ++ (wRR G ad 0 sg)) (wMo G ae 0 r) ([(ou, .inl (G.2.2.2, 1, .inr (.inl fo1)))] ++ (wRR G ad 0 sg1)) (As := [.ref (ad 0), .int (xs (nI i + 1).toNatClampNeg), .int (xs (nI i + 2).toNatClampNeg), .ref ou]) (rest := []) CF hC (vx_cwSW 4 hts gL_law_L_reservoirItem rfl rfl rfl (by decide +kernel) ⟨Nat.le_of_ble_eq_true rfl, Nat.le_of_ble_eq_true rfl⟩) hP hD hS hA hY hZ (fst_LR _ _ _ _ _ _ _ _) rfl hl.1 rfl (lv_room (Nat.le_of_ble_eq_true rfl)) dL_law_568 ⟨hc, hsl⟩ (fun H locs hP hD hS => ?_)
  have hP : va_P G.1 vwCl (([(ou, .inl (G.2.2.2, 1, .inr (.inl fo1)))] ++ (wRR G ad 0 sg1)) ++ wMo G ae 0 r) H := hP
  have hD : va_D (fun q : Nat => s.heap.size ≤ q) (([(ou, .inl (G.2.2.2, 1, .inr (.inl fo1)))] ++ (wRR G ad 0 sg1)) ++ wMo G ae 0 r) := hD
  refine lv_istore (lv' := [(5, .int kk), (0, .ref b), (1, .ref (ad 0)), (2, .ref (ae 0)), (3, .ref ou), (4, .int (nI i))]) hx hb dL_law_571 hl (by decide) rfl (fun ls hl => ?_)
  refine lv_aload_n hx hb dL_law_573 rfl (lv_at hl 3 rfl) ?_
  refine lv_aload_n hx hb dL_law_574 rfl (lv_at hl 1 rfl) ?_
  refine lv_iload hx hb dL_law_575 (lv_at hl 5 rfl) ?_
  refine lv_iconst (v := 1) hx hb dL_law_577 (by decide) ?_
  refine lv_iadd hx hb dL_law_578 ?_
  refine va_sld hx hb hX hbl hbA hS (ix_1 hi hL) dL_law_579 ?_
  refine lv_aload_n hx hb dL_law_580 rfl (lv_at hl 1 rfl) ?_
  refine lv_iload hx hb dL_law_581 (lv_at hl 5 rfl) ?_
  refine lv_iconst (v := 2) hx hb dL_law_583 (by decide) ?_
  refine lv_iadd hx hb dL_law_584 ?_
  refine va_sld hx hb hX hbl hbA hS (ix_2 hi hL) dL_law_585 ?_
  rw [← List.append_nil (wMo G ae 0 r)] at hP hD
  refine wrV ([(ou, .inl (G.2.2.2, 1, .inr (.inl fo1)))] ++ (wRR G ad 0 sg1)) (wMo G ae 0 r) [] (wMo G ae 0 r1) (As := [.int (xs (nI i + 1).toNatClampNeg), .int (xs (nI i + 2).toNatClampNeg)]) (rest := []) CF hM (cwV 2 hts gL_law_X7_reservoirItem rfl rfl rfl (by decide +kernel) ⟨Nat.le_of_ble_eq_true rfl, Nat.le_of_ble_eq_true rfl⟩) hP hD hS hA hY rfl rfl (fst_Mo _ _ _ _ _) rfl hl.1 rfl (lv_room (Nat.le_of_ble_eq_true rfl)) dL_law_586 ⟨(show cells + 1 ≤ 1108 from hc), (show slots + 6 ≤ 14071 from hsl)⟩ (fun H locs hP hD hS => ?_)
  rw [List.append_nil] at hP hD
  refine lv_istore (lv' := [(6, .int b1), (5, .int kk), (0, .ref b), (1, .ref (ad 0)), (2, .ref (ae 0)), (3, .ref ou), (4, .int (nI i))]) hx hb dL_law_589 hl (by decide) rfl (fun ls hl => ?_)
  refine lv_aload_n hx hb dL_law_591 rfl (lv_at hl 4 rfl) ?_
  refine rdV (w0 := (wMo G ae 0 r1)) (As := []) (rest := []) CF (k_X7_thrown l G ae 0 r1) (cwV 0 hts gL_law_X7_thrown rfl rfl rfl (by decide +kernel) ⟨Nat.le_of_ble_eq_true rfl, Nat.le_of_ble_eq_true rfl⟩) hP.apr hY rfl rfl rfl hl.1 rfl (lv_room (Nat.le_of_ble_eq_true rfl)) dL_law_592 ⟨(show cells + 1 ≤ 1108 from hc), (show slots + 6 ≤ 14071 from hsl)⟩ ?_
  refine lv_iload hx hb dL_law_595 (lv_at hl 1 rfl) ?_
  refine lv_icmp_eq (tgt := 602) hx hb dL_law_597 (by decide) (fun _ => ?_) (fun hh => absurd e1 hh)
  refine lv_iload hx hb dL_law_602 (lv_at hl 1 rfl) ?_
  refine lv_if_ne (tgt := 619) hx hb dL_law_604 (by decide) (fun _ => ?_) (fun hk => ?_)
  · refine lv_goto (tgt := 1690) hx hb dL_law_619 (by decide) ?_
    exact next sg1 r1 fo1 H locs ls hR1 hP hD hS (lv_sub hl [2, 3, 4, 5, 6] rfl)
  refine lv_aload_n hx hb dL_law_607 rfl (lv_at hl 5 rfl) ?_
  refine lv_iconst (v := 0) hx hb dL_law_608 (by decide) ?_
  refine va_lald hx hb hY.1 hP 0 2 rfl rfl vp_0_1 dL_law_609 ?_
  refine lv_iload hx hb dL_law_610 (lv_at hl 0 rfl) ?_
  refine lv_i2l hx hb dL_law_612 rfl ?_
  refine W.lcmp hx hb dL_law_613 ?_
  refine lv_if_eq (tgt := 619) hx hb dL_law_614 (by decide) (fun _ => ?_) (fun hh => absurd ((lg_cmp_eq _ _).mpr (e2 hk)) hh)
  refine lv_goto (tgt := 1690) hx hb dL_law_619 (by decide) ?_
  exact next sg1 r1 fo1 H locs ls hR1 hP hD hS (lv_sub hl [2, 3, 4, 5, 6] rfl)

set_option maxHeartbeats 4000000 in
set_option maxRecDepth 100000 in
theorem lc_reservoirPosition {p : Program} {l : Launch} {e : Env} {s : State} {m : MethodId} {below : List Frame} {meth : Method} {c : Code} {G : GT} {b L : Nat} {xs : Nat → Int32} {Q : State → Prop} (C : LawAt p l s m meth c b L xs G) {i : Nat} (hi : i + 7 ≤ L) {ad ae : Nat → Nat} {ou : Nat} {sg : RRT} {r : MoT} {fo : Nat → Int64} (hR : Rel sg r) {H : Heap} {locs : List Loc} {cells slots : Nat} (hc : cells + 1 ≤ 1108) (hsl : slots + 6 ≤ 14071) (hP : va_P G.1 vwCl (([(ou, .inl (G.2.2.2, 1, .inr (.inl fo)))] ++ (wRR G ad 0 sg)) ++ wMo G ae 0 r) H) (hD : va_D (fun q : Nat => s.heap.size ≤ q) (([(ou, .inl (G.2.2.2, 1, .inr (.inl fo)))] ++ (wRR G ad 0 sg)) ++ wMo G ae 0 r)) (hS : va_S (fun q : Nat => s.heap.size ≤ q) s.heap H locs) {ls : Array Slot} (hl : lv_has ls 8 [(0, .ref b), (1, .ref (ad 0)), (2, .ref (ae 0)), (3, .ref ou), (4, .int (nI i))])
    (next : ∀ (sg : RRT) (r : MoT) (fo : Nat → Int64) (H : Heap) (locs : List Loc) (ls : Array Slot), Rel sg r → va_P G.1 vwCl (([(ou, .inl (G.2.2.2, 1, .inr (.inl fo)))] ++ (wRR G ad 0 sg)) ++ wMo G ae 0 r) H → va_D (fun q : Nat => s.heap.size ≤ q) (([(ou, .inl (G.2.2.2, 1, .inr (.inl fo)))] ++ (wRR G ad 0 sg)) ++ wMo G ae 0 r) → va_S (fun q : Nat => s.heap.size ≤ q) s.heap H locs → lv_has ls 8 [(0, .ref b), (1, .ref (ad 0)), (2, .ref (ae 0)), (3, .ref ou), (4, .int (nI i))] → W p l e room_1 s m #[Value.ref b] below meth c H locs (cells + 1) (slots + 6) Q (F0 m 1690 ls [])) :
    W p l e room_1 s m #[Value.ref b] below meth c H locs cells slots Q (F0 m 622 ls []) := by
  obtain ⟨⟨hx, hb, hr, hml, hown, hts0, hX, hbl, hlocks, hgv⟩, hl0, hY, hZ, hL⟩ := C
  have hts : ∀ w ∈ wsL_law, w.before #[Value.ref b] s = true := fun w h => hts0 w (wsL_law_in w h)
  have hown : s.vm.findClass RL = some m.cls := hown
  have CF : CallFix p m c cL_law 8 s #[Value.ref b] wsL_law RL := ⟨hx, hb, hml, hown, hts⟩
  have hA : ∀ q : Nat, s.heap.size ≤ q → (fun q : Nat => s.heap.size ≤ q) q := fun _ h => h
  have hbA : ¬ (fun q : Nat => s.heap.size ≤ q) b := Nat.not_le.mpr hbl
  refine lv_aload_n hx hb dL_law_622 rfl (lv_at hl 1 rfl) ?_
  refine lv_aload_n hx hb dL_law_623 rfl (lv_at hl 0 rfl) ?_
  refine lv_iload hx hb dL_law_624 (lv_at hl 4 rfl) ?_
  refine lv_iconst (v := 1) hx hb dL_law_626 (by decide) ?_
  refine lv_iadd hx hb dL_law_627 ?_
  refine va_sld hx hb hX hbl hbA hS (ix_1 hi hL) dL_law_628 ?_
  refine lv_aload_n hx hb dL_law_629 rfl (lv_at hl 0 rfl) ?_
  refine lv_iload hx hb dL_law_630 (lv_at hl 4 rfl) ?_
  refine lv_iconst (v := 2) hx hb dL_law_632 (by decide) ?_
  refine lv_iadd hx hb dL_law_633 ?_
  refine va_sld hx hb hX hbl hbA hS (ix_2 hi hL) dL_law_634 ?_
  refine lv_aload_n hx hb dL_law_635 rfl (lv_at hl 3 rfl) ?_
  obtain ⟨kk, fo1, sg1, b1, r1, hC, hM, e1, e2, hR1⟩ := ag_reservoirPosition l hl0 G ad 0 ae 0 hR (xs (nI i + 1).toNatClampNeg) (xs (nI i + 2).toNatClampNeg) ou fo
  refine caS [] ([(ou, .inl (G.2.2.2, 1, .inr (.inl fo)))] ++ (wRR G ad 0 sg)) (wMo G ae 0 r) ([(ou, .inl (G.2.2.2, 1, .inr (.inl fo1)))] ++ (wRR G ad 0 sg1)) (As := [.ref (ad 0), .int (xs (nI i + 1).toNatClampNeg), .int (xs (nI i + 2).toNatClampNeg), .ref ou]) (rest := []) CF hC (vx_cwSW 4 hts gL_law_L_reservoirPosition rfl rfl rfl (by decide +kernel) ⟨Nat.le_of_ble_eq_true rfl, Nat.le_of_ble_eq_true rfl⟩) hP hD hS hA hY hZ (fst_LR _ _ _ _ _ _ _ _) rfl hl.1 rfl (lv_room (Nat.le_of_ble_eq_true rfl)) dL_law_636 ⟨hc, hsl⟩ (fun H locs hP hD hS => ?_)
  have hP : va_P G.1 vwCl (([(ou, .inl (G.2.2.2, 1, .inr (.inl fo1)))] ++ (wRR G ad 0 sg1)) ++ wMo G ae 0 r) H := hP
  have hD : va_D (fun q : Nat => s.heap.size ≤ q) (([(ou, .inl (G.2.2.2, 1, .inr (.inl fo1)))] ++ (wRR G ad 0 sg1)) ++ wMo G ae 0 r) := hD
  refine lv_istore (lv' := [(5, .int kk), (0, .ref b), (1, .ref (ad 0)), (2, .ref (ae 0)), (3, .ref ou), (4, .int (nI i))]) hx hb dL_law_639 hl (by decide) rfl (fun ls hl => ?_)
  refine lv_aload_n hx hb dL_law_641 rfl (lv_at hl 3 rfl) ?_
  refine lv_aload_n hx hb dL_law_642 rfl (lv_at hl 1 rfl) ?_
  refine lv_iload hx hb dL_law_643 (lv_at hl 5 rfl) ?_
  refine lv_iconst (v := 1) hx hb dL_law_645 (by decide) ?_
  refine lv_iadd hx hb dL_law_646 ?_
  refine va_sld hx hb hX hbl hbA hS (ix_1 hi hL) dL_law_647 ?_
  refine lv_aload_n hx hb dL_law_648 rfl (lv_at hl 1 rfl) ?_
  refine lv_iload hx hb dL_law_649 (lv_at hl 5 rfl) ?_
  refine lv_iconst (v := 2) hx hb dL_law_651 (by decide) ?_
  refine lv_iadd hx hb dL_law_652 ?_
  refine va_sld hx hb hX hbl hbA hS (ix_2 hi hL) dL_law_653 ?_
  rw [← List.append_nil (wMo G ae 0 r)] at hP hD
  refine wrV ([(ou, .inl (G.2.2.2, 1, .inr (.inl fo1)))] ++ (wRR G ad 0 sg1)) (wMo G ae 0 r) [] (wMo G ae 0 r1) (As := [.int (xs (nI i + 1).toNatClampNeg), .int (xs (nI i + 2).toNatClampNeg)]) (rest := []) CF hM (cwV 2 hts gL_law_X7_reservoirPosition rfl rfl rfl (by decide +kernel) ⟨Nat.le_of_ble_eq_true rfl, Nat.le_of_ble_eq_true rfl⟩) hP hD hS hA hY rfl rfl (fst_Mo _ _ _ _ _) rfl hl.1 rfl (lv_room (Nat.le_of_ble_eq_true rfl)) dL_law_654 ⟨(show cells + 1 ≤ 1108 from hc), (show slots + 6 ≤ 14071 from hsl)⟩ (fun H locs hP hD hS => ?_)
  rw [List.append_nil] at hP hD
  refine lv_istore (lv' := [(6, .int b1), (5, .int kk), (0, .ref b), (1, .ref (ad 0)), (2, .ref (ae 0)), (3, .ref ou), (4, .int (nI i))]) hx hb dL_law_657 hl (by decide) rfl (fun ls hl => ?_)
  refine lv_aload_n hx hb dL_law_659 rfl (lv_at hl 4 rfl) ?_
  refine rdV (w0 := (wMo G ae 0 r1)) (As := []) (rest := []) CF (k_X7_thrown l G ae 0 r1) (cwV 0 hts gL_law_X7_thrown rfl rfl rfl (by decide +kernel) ⟨Nat.le_of_ble_eq_true rfl, Nat.le_of_ble_eq_true rfl⟩) hP.apr hY rfl rfl rfl hl.1 rfl (lv_room (Nat.le_of_ble_eq_true rfl)) dL_law_660 ⟨(show cells + 1 ≤ 1108 from hc), (show slots + 6 ≤ 14071 from hsl)⟩ ?_
  refine lv_iload hx hb dL_law_663 (lv_at hl 1 rfl) ?_
  refine lv_icmp_eq (tgt := 670) hx hb dL_law_665 (by decide) (fun _ => ?_) (fun hh => absurd e1 hh)
  refine lv_iload hx hb dL_law_670 (lv_at hl 1 rfl) ?_
  refine lv_if_ne (tgt := 687) hx hb dL_law_672 (by decide) (fun _ => ?_) (fun hk => ?_)
  · refine lv_goto (tgt := 1690) hx hb dL_law_687 (by decide) ?_
    exact next sg1 r1 fo1 H locs ls hR1 hP hD hS (lv_sub hl [2, 3, 4, 5, 6] rfl)
  refine lv_aload_n hx hb dL_law_675 rfl (lv_at hl 5 rfl) ?_
  refine lv_iconst (v := 0) hx hb dL_law_676 (by decide) ?_
  refine va_lald hx hb hY.1 hP 0 2 rfl rfl vp_0_1 dL_law_677 ?_
  refine lv_iload hx hb dL_law_678 (lv_at hl 0 rfl) ?_
  refine lv_i2l hx hb dL_law_680 rfl ?_
  refine W.lcmp hx hb dL_law_681 ?_
  refine lv_if_eq (tgt := 687) hx hb dL_law_682 (by decide) (fun _ => ?_) (fun hh => absurd ((lg_cmp_eq _ _).mpr (e2 hk)) hh)
  refine lv_goto (tgt := 1690) hx hb dL_law_687 (by decide) ?_
  exact next sg1 r1 fo1 H locs ls hR1 hP hD hS (lv_sub hl [2, 3, 4, 5, 6] rfl)

set_option maxHeartbeats 4000000 in
set_option maxRecDepth 100000 in
theorem lc_groupOffers {p : Program} {l : Launch} {e : Env} {s : State} {m : MethodId} {below : List Frame} {meth : Method} {c : Code} {G : GT} {b L : Nat} {xs : Nat → Int32} {Q : State → Prop} (C : LawAt p l s m meth c b L xs G) {i : Nat} (hi : i + 7 ≤ L) {ad ae : Nat → Nat} {ou : Nat} {sg : RRT} {r : MoT} {fo : Nat → Int64} (hR : Rel sg r) {H : Heap} {locs : List Loc} {cells slots : Nat} (hc : cells + 1 ≤ 1108) (hsl : slots + 6 ≤ 14071) (hP : va_P G.1 vwCl (([(ou, .inl (G.2.2.2, 1, .inr (.inl fo)))] ++ (wRR G ad 0 sg)) ++ wMo G ae 0 r) H) (hD : va_D (fun q : Nat => s.heap.size ≤ q) (([(ou, .inl (G.2.2.2, 1, .inr (.inl fo)))] ++ (wRR G ad 0 sg)) ++ wMo G ae 0 r)) (hS : va_S (fun q : Nat => s.heap.size ≤ q) s.heap H locs) {ls : Array Slot} (hl : lv_has ls 8 [(0, .ref b), (1, .ref (ad 0)), (2, .ref (ae 0)), (3, .ref ou), (4, .int (nI i))])
    (next : ∀ (sg : RRT) (r : MoT) (fo : Nat → Int64) (H : Heap) (locs : List Loc) (ls : Array Slot), Rel sg r → va_P G.1 vwCl (([(ou, .inl (G.2.2.2, 1, .inr (.inl fo)))] ++ (wRR G ad 0 sg)) ++ wMo G ae 0 r) H → va_D (fun q : Nat => s.heap.size ≤ q) (([(ou, .inl (G.2.2.2, 1, .inr (.inl fo)))] ++ (wRR G ad 0 sg)) ++ wMo G ae 0 r) → va_S (fun q : Nat => s.heap.size ≤ q) s.heap H locs → lv_has ls 8 [(0, .ref b), (1, .ref (ad 0)), (2, .ref (ae 0)), (3, .ref ou), (4, .int (nI i))] → W p l e room_1 s m #[Value.ref b] below meth c H locs (cells + 1) (slots + 6) Q (F0 m 1690 ls [])) :
    W p l e room_1 s m #[Value.ref b] below meth c H locs cells slots Q (F0 m 690 ls []) := by
  obtain ⟨⟨hx, hb, hr, hml, hown, hts0, hX, hbl, hlocks, hgv⟩, hl0, hY, hZ, hL⟩ := C
  have hts : ∀ w ∈ wsL_law, w.before #[Value.ref b] s = true := fun w h => hts0 w (wsL_law_in w h)
  have hown : s.vm.findClass RL = some m.cls := hown
  have CF : CallFix p m c cL_law 8 s #[Value.ref b] wsL_law RL := ⟨hx, hb, hml, hown, hts⟩
  have hA : ∀ q : Nat, s.heap.size ≤ q → (fun q : Nat => s.heap.size ≤ q) q := fun _ h => h
  have hbA : ¬ (fun q : Nat => s.heap.size ≤ q) b := Nat.not_le.mpr hbl
  refine lv_aload_n hx hb dL_law_690 rfl (lv_at hl 1 rfl) ?_
  refine lv_aload_n hx hb dL_law_691 rfl (lv_at hl 0 rfl) ?_
  refine lv_iload hx hb dL_law_692 (lv_at hl 4 rfl) ?_
  refine lv_iconst (v := 1) hx hb dL_law_694 (by decide) ?_
  refine lv_iadd hx hb dL_law_695 ?_
  refine va_sld hx hb hX hbl hbA hS (ix_1 hi hL) dL_law_696 ?_
  refine lv_aload_n hx hb dL_law_697 rfl (lv_at hl 0 rfl) ?_
  refine lv_iload hx hb dL_law_698 (lv_at hl 4 rfl) ?_
  refine lv_iconst (v := 2) hx hb dL_law_700 (by decide) ?_
  refine lv_iadd hx hb dL_law_701 ?_
  refine va_sld hx hb hX hbl hbA hS (ix_2 hi hL) dL_law_702 ?_
  refine lv_aload_n hx hb dL_law_703 rfl (lv_at hl 3 rfl) ?_
  obtain ⟨kk, fo1, sg1, b1, r1, hC, hM, e1, e2, hR1⟩ := ag_groupOffers l hl0 G ad 0 ae 0 hR (xs (nI i + 1).toNatClampNeg) (xs (nI i + 2).toNatClampNeg) ou fo
  refine caS [] ([(ou, .inl (G.2.2.2, 1, .inr (.inl fo)))] ++ (wRR G ad 0 sg)) (wMo G ae 0 r) ([(ou, .inl (G.2.2.2, 1, .inr (.inl fo1)))] ++ (wRR G ad 0 sg1)) (As := [.ref (ad 0), .int (xs (nI i + 1).toNatClampNeg), .int (xs (nI i + 2).toNatClampNeg), .ref ou]) (rest := []) CF hC (vx_cwSW 4 hts gL_law_L_groupOffers rfl rfl rfl (by decide +kernel) ⟨Nat.le_of_ble_eq_true rfl, Nat.le_of_ble_eq_true rfl⟩) hP hD hS hA hY hZ (fst_LR _ _ _ _ _ _ _ _) rfl hl.1 rfl (lv_room (Nat.le_of_ble_eq_true rfl)) dL_law_704 ⟨hc, hsl⟩ (fun H locs hP hD hS => ?_)
  have hP : va_P G.1 vwCl (([(ou, .inl (G.2.2.2, 1, .inr (.inl fo1)))] ++ (wRR G ad 0 sg1)) ++ wMo G ae 0 r) H := hP
  have hD : va_D (fun q : Nat => s.heap.size ≤ q) (([(ou, .inl (G.2.2.2, 1, .inr (.inl fo1)))] ++ (wRR G ad 0 sg1)) ++ wMo G ae 0 r) := hD
  refine lv_istore (lv' := [(5, .int kk), (0, .ref b), (1, .ref (ad 0)), (2, .ref (ae 0)), (3, .ref ou), (4, .int (nI i))]) hx hb dL_law_707 hl (by decide) rfl (fun ls hl => ?_)
  refine lv_aload_n hx hb dL_law_709 rfl (lv_at hl 3 rfl) ?_
  refine lv_aload_n hx hb dL_law_710 rfl (lv_at hl 1 rfl) ?_
  refine lv_iload hx hb dL_law_711 (lv_at hl 5 rfl) ?_
  refine lv_iconst (v := 1) hx hb dL_law_713 (by decide) ?_
  refine lv_iadd hx hb dL_law_714 ?_
  refine va_sld hx hb hX hbl hbA hS (ix_1 hi hL) dL_law_715 ?_
  refine lv_aload_n hx hb dL_law_716 rfl (lv_at hl 1 rfl) ?_
  refine lv_iload hx hb dL_law_717 (lv_at hl 5 rfl) ?_
  refine lv_iconst (v := 2) hx hb dL_law_719 (by decide) ?_
  refine lv_iadd hx hb dL_law_720 ?_
  refine va_sld hx hb hX hbl hbA hS (ix_2 hi hL) dL_law_721 ?_
  rw [← List.append_nil (wMo G ae 0 r)] at hP hD
  refine wrV ([(ou, .inl (G.2.2.2, 1, .inr (.inl fo1)))] ++ (wRR G ad 0 sg1)) (wMo G ae 0 r) [] (wMo G ae 0 r1) (As := [.int (xs (nI i + 1).toNatClampNeg), .int (xs (nI i + 2).toNatClampNeg)]) (rest := []) CF hM (cwV 2 hts gL_law_X7_groupOffers rfl rfl rfl (by decide +kernel) ⟨Nat.le_of_ble_eq_true rfl, Nat.le_of_ble_eq_true rfl⟩) hP hD hS hA hY rfl rfl (fst_Mo _ _ _ _ _) rfl hl.1 rfl (lv_room (Nat.le_of_ble_eq_true rfl)) dL_law_722 ⟨(show cells + 1 ≤ 1108 from hc), (show slots + 6 ≤ 14071 from hsl)⟩ (fun H locs hP hD hS => ?_)
  rw [List.append_nil] at hP hD
  refine lv_istore (lv' := [(6, .int b1), (5, .int kk), (0, .ref b), (1, .ref (ad 0)), (2, .ref (ae 0)), (3, .ref ou), (4, .int (nI i))]) hx hb dL_law_725 hl (by decide) rfl (fun ls hl => ?_)
  refine lv_aload_n hx hb dL_law_727 rfl (lv_at hl 4 rfl) ?_
  refine rdV (w0 := (wMo G ae 0 r1)) (As := []) (rest := []) CF (k_X7_thrown l G ae 0 r1) (cwV 0 hts gL_law_X7_thrown rfl rfl rfl (by decide +kernel) ⟨Nat.le_of_ble_eq_true rfl, Nat.le_of_ble_eq_true rfl⟩) hP.apr hY rfl rfl rfl hl.1 rfl (lv_room (Nat.le_of_ble_eq_true rfl)) dL_law_728 ⟨(show cells + 1 ≤ 1108 from hc), (show slots + 6 ≤ 14071 from hsl)⟩ ?_
  refine lv_iload hx hb dL_law_731 (lv_at hl 1 rfl) ?_
  refine lv_icmp_eq (tgt := 738) hx hb dL_law_733 (by decide) (fun _ => ?_) (fun hh => absurd e1 hh)
  refine lv_iload hx hb dL_law_738 (lv_at hl 1 rfl) ?_
  refine lv_if_ne (tgt := 755) hx hb dL_law_740 (by decide) (fun _ => ?_) (fun hk => ?_)
  · refine lv_goto (tgt := 1690) hx hb dL_law_755 (by decide) ?_
    exact next sg1 r1 fo1 H locs ls hR1 hP hD hS (lv_sub hl [2, 3, 4, 5, 6] rfl)
  refine lv_aload_n hx hb dL_law_743 rfl (lv_at hl 5 rfl) ?_
  refine lv_iconst (v := 0) hx hb dL_law_744 (by decide) ?_
  refine va_lald hx hb hY.1 hP 0 2 rfl rfl vp_0_1 dL_law_745 ?_
  refine lv_iload hx hb dL_law_746 (lv_at hl 0 rfl) ?_
  refine lv_i2l hx hb dL_law_748 rfl ?_
  refine W.lcmp hx hb dL_law_749 ?_
  refine lv_if_eq (tgt := 755) hx hb dL_law_750 (by decide) (fun _ => ?_) (fun hh => absurd ((lg_cmp_eq _ _).mpr (e2 hk)) hh)
  refine lv_goto (tgt := 1690) hx hb dL_law_755 (by decide) ?_
  exact next sg1 r1 fo1 H locs ls hR1 hP hD hS (lv_sub hl [2, 3, 4, 5, 6] rfl)

set_option maxHeartbeats 4000000 in
set_option maxRecDepth 100000 in
theorem lc_groupItem {p : Program} {l : Launch} {e : Env} {s : State} {m : MethodId} {below : List Frame} {meth : Method} {c : Code} {G : GT} {b L : Nat} {xs : Nat → Int32} {Q : State → Prop} (C : LawAt p l s m meth c b L xs G) {i : Nat} (hi : i + 7 ≤ L) {ad ae : Nat → Nat} {ou : Nat} {sg : RRT} {r : MoT} {fo : Nat → Int64} (hR : Rel sg r) {H : Heap} {locs : List Loc} {cells slots : Nat} (hc : cells + 1 ≤ 1108) (hsl : slots + 6 ≤ 14071) (hP : va_P G.1 vwCl (([(ou, .inl (G.2.2.2, 1, .inr (.inl fo)))] ++ (wRR G ad 0 sg)) ++ wMo G ae 0 r) H) (hD : va_D (fun q : Nat => s.heap.size ≤ q) (([(ou, .inl (G.2.2.2, 1, .inr (.inl fo)))] ++ (wRR G ad 0 sg)) ++ wMo G ae 0 r)) (hS : va_S (fun q : Nat => s.heap.size ≤ q) s.heap H locs) {ls : Array Slot} (hl : lv_has ls 8 [(0, .ref b), (1, .ref (ad 0)), (2, .ref (ae 0)), (3, .ref ou), (4, .int (nI i))])
    (next : ∀ (sg : RRT) (r : MoT) (fo : Nat → Int64) (H : Heap) (locs : List Loc) (ls : Array Slot), Rel sg r → va_P G.1 vwCl (([(ou, .inl (G.2.2.2, 1, .inr (.inl fo)))] ++ (wRR G ad 0 sg)) ++ wMo G ae 0 r) H → va_D (fun q : Nat => s.heap.size ≤ q) (([(ou, .inl (G.2.2.2, 1, .inr (.inl fo)))] ++ (wRR G ad 0 sg)) ++ wMo G ae 0 r) → va_S (fun q : Nat => s.heap.size ≤ q) s.heap H locs → lv_has ls 8 [(0, .ref b), (1, .ref (ad 0)), (2, .ref (ae 0)), (3, .ref ou), (4, .int (nI i))] → W p l e room_1 s m #[Value.ref b] below meth c H locs (cells + 1) (slots + 6) Q (F0 m 1690 ls [])) :
    W p l e room_1 s m #[Value.ref b] below meth c H locs cells slots Q (F0 m 758 ls []) := by
  obtain ⟨⟨hx, hb, hr, hml, hown, hts0, hX, hbl, hlocks, hgv⟩, hl0, hY, hZ, hL⟩ := C
  have hts : ∀ w ∈ wsL_law, w.before #[Value.ref b] s = true := fun w h => hts0 w (wsL_law_in w h)
  have hown : s.vm.findClass RL = some m.cls := hown
  have CF : CallFix p m c cL_law 8 s #[Value.ref b] wsL_law RL := ⟨hx, hb, hml, hown, hts⟩
  have hA : ∀ q : Nat, s.heap.size ≤ q → (fun q : Nat => s.heap.size ≤ q) q := fun _ h => h
  have hbA : ¬ (fun q : Nat => s.heap.size ≤ q) b := Nat.not_le.mpr hbl
  refine lv_aload_n hx hb dL_law_758 rfl (lv_at hl 1 rfl) ?_
  refine lv_aload_n hx hb dL_law_759 rfl (lv_at hl 0 rfl) ?_
  refine lv_iload hx hb dL_law_760 (lv_at hl 4 rfl) ?_
  refine lv_iconst (v := 1) hx hb dL_law_762 (by decide) ?_
  refine lv_iadd hx hb dL_law_763 ?_
  refine va_sld hx hb hX hbl hbA hS (ix_1 hi hL) dL_law_764 ?_
  refine lv_aload_n hx hb dL_law_765 rfl (lv_at hl 0 rfl) ?_
  refine lv_iload hx hb dL_law_766 (lv_at hl 4 rfl) ?_
  refine lv_iconst (v := 2) hx hb dL_law_768 (by decide) ?_
  refine lv_iadd hx hb dL_law_769 ?_
  refine va_sld hx hb hX hbl hbA hS (ix_2 hi hL) dL_law_770 ?_
  refine lv_aload_n hx hb dL_law_771 rfl (lv_at hl 0 rfl) ?_
  refine lv_iload hx hb dL_law_772 (lv_at hl 4 rfl) ?_
  refine lv_iconst (v := 3) hx hb dL_law_774 (by decide) ?_
  refine lv_iadd hx hb dL_law_775 ?_
  refine va_sld hx hb hX hbl hbA hS (ix_3 hi hL) dL_law_776 ?_
  refine lv_aload_n hx hb dL_law_777 rfl (lv_at hl 3 rfl) ?_
  obtain ⟨kk, fo1, sg1, b1, r1, hC, hM, e1, e2, hR1⟩ := ag_groupItem l hl0 G ad 0 ae 0 hR (xs (nI i + 1).toNatClampNeg) (xs (nI i + 2).toNatClampNeg) (xs (nI i + 3).toNatClampNeg) ou fo
  refine caS [] ([(ou, .inl (G.2.2.2, 1, .inr (.inl fo)))] ++ (wRR G ad 0 sg)) (wMo G ae 0 r) ([(ou, .inl (G.2.2.2, 1, .inr (.inl fo1)))] ++ (wRR G ad 0 sg1)) (As := [.ref (ad 0), .int (xs (nI i + 1).toNatClampNeg), .int (xs (nI i + 2).toNatClampNeg), .int (xs (nI i + 3).toNatClampNeg), .ref ou]) (rest := []) CF hC (vx_cwSW 5 hts gL_law_L_groupItem rfl rfl rfl (by decide +kernel) ⟨Nat.le_of_ble_eq_true rfl, Nat.le_of_ble_eq_true rfl⟩) hP hD hS hA hY hZ (fst_LR _ _ _ _ _ _ _ _) rfl hl.1 rfl (lv_room (Nat.le_of_ble_eq_true rfl)) dL_law_778 ⟨hc, hsl⟩ (fun H locs hP hD hS => ?_)
  have hP : va_P G.1 vwCl (([(ou, .inl (G.2.2.2, 1, .inr (.inl fo1)))] ++ (wRR G ad 0 sg1)) ++ wMo G ae 0 r) H := hP
  have hD : va_D (fun q : Nat => s.heap.size ≤ q) (([(ou, .inl (G.2.2.2, 1, .inr (.inl fo1)))] ++ (wRR G ad 0 sg1)) ++ wMo G ae 0 r) := hD
  refine lv_istore (lv' := [(5, .int kk), (0, .ref b), (1, .ref (ad 0)), (2, .ref (ae 0)), (3, .ref ou), (4, .int (nI i))]) hx hb dL_law_781 hl (by decide) rfl (fun ls hl => ?_)
  refine lv_aload_n hx hb dL_law_783 rfl (lv_at hl 3 rfl) ?_
  refine lv_aload_n hx hb dL_law_784 rfl (lv_at hl 1 rfl) ?_
  refine lv_iload hx hb dL_law_785 (lv_at hl 5 rfl) ?_
  refine lv_iconst (v := 1) hx hb dL_law_787 (by decide) ?_
  refine lv_iadd hx hb dL_law_788 ?_
  refine va_sld hx hb hX hbl hbA hS (ix_1 hi hL) dL_law_789 ?_
  refine lv_aload_n hx hb dL_law_790 rfl (lv_at hl 1 rfl) ?_
  refine lv_iload hx hb dL_law_791 (lv_at hl 5 rfl) ?_
  refine lv_iconst (v := 2) hx hb dL_law_793 (by decide) ?_
  refine lv_iadd hx hb dL_law_794 ?_
  refine va_sld hx hb hX hbl hbA hS (ix_2 hi hL) dL_law_795 ?_
  refine lv_aload_n hx hb dL_law_796 rfl (lv_at hl 1 rfl) ?_
  refine lv_iload hx hb dL_law_797 (lv_at hl 5 rfl) ?_
  refine lv_iconst (v := 3) hx hb dL_law_799 (by decide) ?_
  refine lv_iadd hx hb dL_law_800 ?_
  refine va_sld hx hb hX hbl hbA hS (ix_3 hi hL) dL_law_801 ?_
  rw [← List.append_nil (wMo G ae 0 r)] at hP hD
  refine wrV ([(ou, .inl (G.2.2.2, 1, .inr (.inl fo1)))] ++ (wRR G ad 0 sg1)) (wMo G ae 0 r) [] (wMo G ae 0 r1) (As := [.int (xs (nI i + 1).toNatClampNeg), .int (xs (nI i + 2).toNatClampNeg), .int (xs (nI i + 3).toNatClampNeg)]) (rest := []) CF hM (cwV 3 hts gL_law_X7_groupItem rfl rfl rfl (by decide +kernel) ⟨Nat.le_of_ble_eq_true rfl, Nat.le_of_ble_eq_true rfl⟩) hP hD hS hA hY rfl rfl (fst_Mo _ _ _ _ _) rfl hl.1 rfl (lv_room (Nat.le_of_ble_eq_true rfl)) dL_law_802 ⟨(show cells + 1 ≤ 1108 from hc), (show slots + 6 ≤ 14071 from hsl)⟩ (fun H locs hP hD hS => ?_)
  rw [List.append_nil] at hP hD
  refine lv_istore (lv' := [(6, .int b1), (5, .int kk), (0, .ref b), (1, .ref (ad 0)), (2, .ref (ae 0)), (3, .ref ou), (4, .int (nI i))]) hx hb dL_law_805 hl (by decide) rfl (fun ls hl => ?_)
  refine lv_aload_n hx hb dL_law_807 rfl (lv_at hl 4 rfl) ?_
  refine rdV (w0 := (wMo G ae 0 r1)) (As := []) (rest := []) CF (k_X7_thrown l G ae 0 r1) (cwV 0 hts gL_law_X7_thrown rfl rfl rfl (by decide +kernel) ⟨Nat.le_of_ble_eq_true rfl, Nat.le_of_ble_eq_true rfl⟩) hP.apr hY rfl rfl rfl hl.1 rfl (lv_room (Nat.le_of_ble_eq_true rfl)) dL_law_808 ⟨(show cells + 1 ≤ 1108 from hc), (show slots + 6 ≤ 14071 from hsl)⟩ ?_
  refine lv_iload hx hb dL_law_811 (lv_at hl 1 rfl) ?_
  refine lv_icmp_eq (tgt := 818) hx hb dL_law_813 (by decide) (fun _ => ?_) (fun hh => absurd e1 hh)
  refine lv_iload hx hb dL_law_818 (lv_at hl 1 rfl) ?_
  refine lv_if_ne (tgt := 835) hx hb dL_law_820 (by decide) (fun _ => ?_) (fun hk => ?_)
  · refine lv_goto (tgt := 1690) hx hb dL_law_835 (by decide) ?_
    exact next sg1 r1 fo1 H locs ls hR1 hP hD hS (lv_sub hl [2, 3, 4, 5, 6] rfl)
  refine lv_aload_n hx hb dL_law_823 rfl (lv_at hl 5 rfl) ?_
  refine lv_iconst (v := 0) hx hb dL_law_824 (by decide) ?_
  refine va_lald hx hb hY.1 hP 0 2 rfl rfl vp_0_1 dL_law_825 ?_
  refine lv_iload hx hb dL_law_826 (lv_at hl 0 rfl) ?_
  refine lv_i2l hx hb dL_law_828 rfl ?_
  refine W.lcmp hx hb dL_law_829 ?_
  refine lv_if_eq (tgt := 835) hx hb dL_law_830 (by decide) (fun _ => ?_) (fun hh => absurd ((lg_cmp_eq _ _).mpr (e2 hk)) hh)
  refine lv_goto (tgt := 1690) hx hb dL_law_835 (by decide) ?_
  exact next sg1 r1 fo1 H locs ls hR1 hP hD hS (lv_sub hl [2, 3, 4, 5, 6] rfl)

set_option maxHeartbeats 4000000 in
set_option maxRecDepth 100000 in
theorem lc_prioritySize {p : Program} {l : Launch} {e : Env} {s : State} {m : MethodId} {below : List Frame} {meth : Method} {c : Code} {G : GT} {b L : Nat} {xs : Nat → Int32} {Q : State → Prop} (C : LawAt p l s m meth c b L xs G) {i : Nat} (hi : i + 7 ≤ L) {ad ae : Nat → Nat} {ou : Nat} {sg : RRT} {r : MoT} {fo : Nat → Int64} (hR : Rel sg r) {H : Heap} {locs : List Loc} {cells slots : Nat} (hc : cells + 1 ≤ 1108) (hsl : slots + 6 ≤ 14071) (hP : va_P G.1 vwCl (([(ou, .inl (G.2.2.2, 1, .inr (.inl fo)))] ++ (wRR G ad 0 sg)) ++ wMo G ae 0 r) H) (hD : va_D (fun q : Nat => s.heap.size ≤ q) (([(ou, .inl (G.2.2.2, 1, .inr (.inl fo)))] ++ (wRR G ad 0 sg)) ++ wMo G ae 0 r)) (hS : va_S (fun q : Nat => s.heap.size ≤ q) s.heap H locs) {ls : Array Slot} (hl : lv_has ls 8 [(0, .ref b), (1, .ref (ad 0)), (2, .ref (ae 0)), (3, .ref ou), (4, .int (nI i))])
    (next : ∀ (sg : RRT) (r : MoT) (fo : Nat → Int64) (H : Heap) (locs : List Loc) (ls : Array Slot), Rel sg r → va_P G.1 vwCl (([(ou, .inl (G.2.2.2, 1, .inr (.inl fo)))] ++ (wRR G ad 0 sg)) ++ wMo G ae 0 r) H → va_D (fun q : Nat => s.heap.size ≤ q) (([(ou, .inl (G.2.2.2, 1, .inr (.inl fo)))] ++ (wRR G ad 0 sg)) ++ wMo G ae 0 r) → va_S (fun q : Nat => s.heap.size ≤ q) s.heap H locs → lv_has ls 8 [(0, .ref b), (1, .ref (ad 0)), (2, .ref (ae 0)), (3, .ref ou), (4, .int (nI i))] → W p l e room_1 s m #[Value.ref b] below meth c H locs (cells + 1) (slots + 6) Q (F0 m 1690 ls [])) :
    W p l e room_1 s m #[Value.ref b] below meth c H locs cells slots Q (F0 m 838 ls []) := by
  obtain ⟨⟨hx, hb, hr, hml, hown, hts0, hX, hbl, hlocks, hgv⟩, hl0, hY, hZ, hL⟩ := C
  have hts : ∀ w ∈ wsL_law, w.before #[Value.ref b] s = true := fun w h => hts0 w (wsL_law_in w h)
  have hown : s.vm.findClass RL = some m.cls := hown
  have CF : CallFix p m c cL_law 8 s #[Value.ref b] wsL_law RL := ⟨hx, hb, hml, hown, hts⟩
  have hA : ∀ q : Nat, s.heap.size ≤ q → (fun q : Nat => s.heap.size ≤ q) q := fun _ h => h
  have hbA : ¬ (fun q : Nat => s.heap.size ≤ q) b := Nat.not_le.mpr hbl
  refine lv_aload_n hx hb dL_law_838 rfl (lv_at hl 1 rfl) ?_
  refine lv_aload_n hx hb dL_law_839 rfl (lv_at hl 0 rfl) ?_
  refine lv_iload hx hb dL_law_840 (lv_at hl 4 rfl) ?_
  refine lv_iconst (v := 1) hx hb dL_law_842 (by decide) ?_
  refine lv_iadd hx hb dL_law_843 ?_
  refine va_sld hx hb hX hbl hbA hS (ix_1 hi hL) dL_law_844 ?_
  refine lv_aload_n hx hb dL_law_845 rfl (lv_at hl 3 rfl) ?_
  obtain ⟨kk, fo1, sg1, b1, r1, hC, hM, e1, e2, hR1⟩ := ag_prioritySize l hl0 G ad 0 ae 0 hR (xs (nI i + 1).toNatClampNeg) ou fo
  refine caS [] ([(ou, .inl (G.2.2.2, 1, .inr (.inl fo)))] ++ (wRR G ad 0 sg)) (wMo G ae 0 r) ([(ou, .inl (G.2.2.2, 1, .inr (.inl fo1)))] ++ (wRR G ad 0 sg1)) (As := [.ref (ad 0), .int (xs (nI i + 1).toNatClampNeg), .ref ou]) (rest := []) CF hC (vx_cwSW 3 hts gL_law_L_prioritySize rfl rfl rfl (by decide +kernel) ⟨Nat.le_of_ble_eq_true rfl, Nat.le_of_ble_eq_true rfl⟩) hP hD hS hA hY hZ (fst_LR _ _ _ _ _ _ _ _) rfl hl.1 rfl (lv_room (Nat.le_of_ble_eq_true rfl)) dL_law_846 ⟨hc, hsl⟩ (fun H locs hP hD hS => ?_)
  have hP : va_P G.1 vwCl (([(ou, .inl (G.2.2.2, 1, .inr (.inl fo1)))] ++ (wRR G ad 0 sg1)) ++ wMo G ae 0 r) H := hP
  have hD : va_D (fun q : Nat => s.heap.size ≤ q) (([(ou, .inl (G.2.2.2, 1, .inr (.inl fo1)))] ++ (wRR G ad 0 sg1)) ++ wMo G ae 0 r) := hD
  refine lv_istore (lv' := [(5, .int kk), (0, .ref b), (1, .ref (ad 0)), (2, .ref (ae 0)), (3, .ref ou), (4, .int (nI i))]) hx hb dL_law_849 hl (by decide) rfl (fun ls hl => ?_)
  refine lv_aload_n hx hb dL_law_851 rfl (lv_at hl 3 rfl) ?_
  refine lv_aload_n hx hb dL_law_852 rfl (lv_at hl 1 rfl) ?_
  refine lv_iload hx hb dL_law_853 (lv_at hl 5 rfl) ?_
  refine lv_iconst (v := 1) hx hb dL_law_855 (by decide) ?_
  refine lv_iadd hx hb dL_law_856 ?_
  refine va_sld hx hb hX hbl hbA hS (ix_1 hi hL) dL_law_857 ?_
  rw [← List.append_nil (wMo G ae 0 r)] at hP hD
  refine wrV ([(ou, .inl (G.2.2.2, 1, .inr (.inl fo1)))] ++ (wRR G ad 0 sg1)) (wMo G ae 0 r) [] (wMo G ae 0 r1) (As := [.int (xs (nI i + 1).toNatClampNeg)]) (rest := []) CF hM (cwV 1 hts gL_law_X7_prioritySize rfl rfl rfl (by decide +kernel) ⟨Nat.le_of_ble_eq_true rfl, Nat.le_of_ble_eq_true rfl⟩) hP hD hS hA hY rfl rfl (fst_Mo _ _ _ _ _) rfl hl.1 rfl (lv_room (Nat.le_of_ble_eq_true rfl)) dL_law_858 ⟨(show cells + 1 ≤ 1108 from hc), (show slots + 6 ≤ 14071 from hsl)⟩ (fun H locs hP hD hS => ?_)
  rw [List.append_nil] at hP hD
  refine lv_istore (lv' := [(6, .int b1), (5, .int kk), (0, .ref b), (1, .ref (ad 0)), (2, .ref (ae 0)), (3, .ref ou), (4, .int (nI i))]) hx hb dL_law_861 hl (by decide) rfl (fun ls hl => ?_)
  refine lv_aload_n hx hb dL_law_863 rfl (lv_at hl 4 rfl) ?_
  refine rdV (w0 := (wMo G ae 0 r1)) (As := []) (rest := []) CF (k_X7_thrown l G ae 0 r1) (cwV 0 hts gL_law_X7_thrown rfl rfl rfl (by decide +kernel) ⟨Nat.le_of_ble_eq_true rfl, Nat.le_of_ble_eq_true rfl⟩) hP.apr hY rfl rfl rfl hl.1 rfl (lv_room (Nat.le_of_ble_eq_true rfl)) dL_law_864 ⟨(show cells + 1 ≤ 1108 from hc), (show slots + 6 ≤ 14071 from hsl)⟩ ?_
  refine lv_iload hx hb dL_law_867 (lv_at hl 1 rfl) ?_
  refine lv_icmp_eq (tgt := 874) hx hb dL_law_869 (by decide) (fun _ => ?_) (fun hh => absurd e1 hh)
  refine lv_iload hx hb dL_law_874 (lv_at hl 1 rfl) ?_
  refine lv_if_ne (tgt := 891) hx hb dL_law_876 (by decide) (fun _ => ?_) (fun hk => ?_)
  · refine lv_goto (tgt := 1690) hx hb dL_law_891 (by decide) ?_
    exact next sg1 r1 fo1 H locs ls hR1 hP hD hS (lv_sub hl [2, 3, 4, 5, 6] rfl)
  refine lv_aload_n hx hb dL_law_879 rfl (lv_at hl 5 rfl) ?_
  refine lv_iconst (v := 0) hx hb dL_law_880 (by decide) ?_
  refine va_lald hx hb hY.1 hP 0 2 rfl rfl vp_0_1 dL_law_881 ?_
  refine lv_iload hx hb dL_law_882 (lv_at hl 0 rfl) ?_
  refine lv_i2l hx hb dL_law_884 rfl ?_
  refine W.lcmp hx hb dL_law_885 ?_
  refine lv_if_eq (tgt := 891) hx hb dL_law_886 (by decide) (fun _ => ?_) (fun hh => absurd ((lg_cmp_eq _ _).mpr (e2 hk)) hh)
  refine lv_goto (tgt := 1690) hx hb dL_law_891 (by decide) ?_
  exact next sg1 r1 fo1 H locs ls hR1 hP hD hS (lv_sub hl [2, 3, 4, 5, 6] rfl)

set_option maxHeartbeats 4000000 in
set_option maxRecDepth 100000 in
theorem lc_priorityItem {p : Program} {l : Launch} {e : Env} {s : State} {m : MethodId} {below : List Frame} {meth : Method} {c : Code} {G : GT} {b L : Nat} {xs : Nat → Int32} {Q : State → Prop} (C : LawAt p l s m meth c b L xs G) {i : Nat} (hi : i + 7 ≤ L) {ad ae : Nat → Nat} {ou : Nat} {sg : RRT} {r : MoT} {fo : Nat → Int64} (hR : Rel sg r) {H : Heap} {locs : List Loc} {cells slots : Nat} (hc : cells + 1 ≤ 1108) (hsl : slots + 6 ≤ 14071) (hP : va_P G.1 vwCl (([(ou, .inl (G.2.2.2, 1, .inr (.inl fo)))] ++ (wRR G ad 0 sg)) ++ wMo G ae 0 r) H) (hD : va_D (fun q : Nat => s.heap.size ≤ q) (([(ou, .inl (G.2.2.2, 1, .inr (.inl fo)))] ++ (wRR G ad 0 sg)) ++ wMo G ae 0 r)) (hS : va_S (fun q : Nat => s.heap.size ≤ q) s.heap H locs) {ls : Array Slot} (hl : lv_has ls 8 [(0, .ref b), (1, .ref (ad 0)), (2, .ref (ae 0)), (3, .ref ou), (4, .int (nI i))])
    (next : ∀ (sg : RRT) (r : MoT) (fo : Nat → Int64) (H : Heap) (locs : List Loc) (ls : Array Slot), Rel sg r → va_P G.1 vwCl (([(ou, .inl (G.2.2.2, 1, .inr (.inl fo)))] ++ (wRR G ad 0 sg)) ++ wMo G ae 0 r) H → va_D (fun q : Nat => s.heap.size ≤ q) (([(ou, .inl (G.2.2.2, 1, .inr (.inl fo)))] ++ (wRR G ad 0 sg)) ++ wMo G ae 0 r) → va_S (fun q : Nat => s.heap.size ≤ q) s.heap H locs → lv_has ls 8 [(0, .ref b), (1, .ref (ad 0)), (2, .ref (ae 0)), (3, .ref ou), (4, .int (nI i))] → W p l e room_1 s m #[Value.ref b] below meth c H locs (cells + 1) (slots + 6) Q (F0 m 1690 ls [])) :
    W p l e room_1 s m #[Value.ref b] below meth c H locs cells slots Q (F0 m 894 ls []) := by
  obtain ⟨⟨hx, hb, hr, hml, hown, hts0, hX, hbl, hlocks, hgv⟩, hl0, hY, hZ, hL⟩ := C
  have hts : ∀ w ∈ wsL_law, w.before #[Value.ref b] s = true := fun w h => hts0 w (wsL_law_in w h)
  have hown : s.vm.findClass RL = some m.cls := hown
  have CF : CallFix p m c cL_law 8 s #[Value.ref b] wsL_law RL := ⟨hx, hb, hml, hown, hts⟩
  have hA : ∀ q : Nat, s.heap.size ≤ q → (fun q : Nat => s.heap.size ≤ q) q := fun _ h => h
  have hbA : ¬ (fun q : Nat => s.heap.size ≤ q) b := Nat.not_le.mpr hbl
  refine lv_aload_n hx hb dL_law_894 rfl (lv_at hl 1 rfl) ?_
  refine lv_aload_n hx hb dL_law_895 rfl (lv_at hl 0 rfl) ?_
  refine lv_iload hx hb dL_law_896 (lv_at hl 4 rfl) ?_
  refine lv_iconst (v := 1) hx hb dL_law_898 (by decide) ?_
  refine lv_iadd hx hb dL_law_899 ?_
  refine va_sld hx hb hX hbl hbA hS (ix_1 hi hL) dL_law_900 ?_
  refine lv_aload_n hx hb dL_law_901 rfl (lv_at hl 0 rfl) ?_
  refine lv_iload hx hb dL_law_902 (lv_at hl 4 rfl) ?_
  refine lv_iconst (v := 2) hx hb dL_law_904 (by decide) ?_
  refine lv_iadd hx hb dL_law_905 ?_
  refine va_sld hx hb hX hbl hbA hS (ix_2 hi hL) dL_law_906 ?_
  refine lv_aload_n hx hb dL_law_907 rfl (lv_at hl 3 rfl) ?_
  obtain ⟨kk, fo1, sg1, b1, r1, hC, hM, e1, e2, hR1⟩ := ag_priorityItem l hl0 G ad 0 ae 0 hR (xs (nI i + 1).toNatClampNeg) (xs (nI i + 2).toNatClampNeg) ou fo
  refine caS [] ([(ou, .inl (G.2.2.2, 1, .inr (.inl fo)))] ++ (wRR G ad 0 sg)) (wMo G ae 0 r) ([(ou, .inl (G.2.2.2, 1, .inr (.inl fo1)))] ++ (wRR G ad 0 sg1)) (As := [.ref (ad 0), .int (xs (nI i + 1).toNatClampNeg), .int (xs (nI i + 2).toNatClampNeg), .ref ou]) (rest := []) CF hC (vx_cwSW 4 hts gL_law_L_priorityItem rfl rfl rfl (by decide +kernel) ⟨Nat.le_of_ble_eq_true rfl, Nat.le_of_ble_eq_true rfl⟩) hP hD hS hA hY hZ (fst_LR _ _ _ _ _ _ _ _) rfl hl.1 rfl (lv_room (Nat.le_of_ble_eq_true rfl)) dL_law_908 ⟨hc, hsl⟩ (fun H locs hP hD hS => ?_)
  have hP : va_P G.1 vwCl (([(ou, .inl (G.2.2.2, 1, .inr (.inl fo1)))] ++ (wRR G ad 0 sg1)) ++ wMo G ae 0 r) H := hP
  have hD : va_D (fun q : Nat => s.heap.size ≤ q) (([(ou, .inl (G.2.2.2, 1, .inr (.inl fo1)))] ++ (wRR G ad 0 sg1)) ++ wMo G ae 0 r) := hD
  refine lv_istore (lv' := [(5, .int kk), (0, .ref b), (1, .ref (ad 0)), (2, .ref (ae 0)), (3, .ref ou), (4, .int (nI i))]) hx hb dL_law_911 hl (by decide) rfl (fun ls hl => ?_)
  refine lv_aload_n hx hb dL_law_913 rfl (lv_at hl 3 rfl) ?_
  refine lv_aload_n hx hb dL_law_914 rfl (lv_at hl 1 rfl) ?_
  refine lv_iload hx hb dL_law_915 (lv_at hl 5 rfl) ?_
  refine lv_iconst (v := 1) hx hb dL_law_917 (by decide) ?_
  refine lv_iadd hx hb dL_law_918 ?_
  refine va_sld hx hb hX hbl hbA hS (ix_1 hi hL) dL_law_919 ?_
  refine lv_aload_n hx hb dL_law_920 rfl (lv_at hl 1 rfl) ?_
  refine lv_iload hx hb dL_law_921 (lv_at hl 5 rfl) ?_
  refine lv_iconst (v := 2) hx hb dL_law_923 (by decide) ?_
  refine lv_iadd hx hb dL_law_924 ?_
  refine va_sld hx hb hX hbl hbA hS (ix_2 hi hL) dL_law_925 ?_
  rw [← List.append_nil (wMo G ae 0 r)] at hP hD
  refine wrV ([(ou, .inl (G.2.2.2, 1, .inr (.inl fo1)))] ++ (wRR G ad 0 sg1)) (wMo G ae 0 r) [] (wMo G ae 0 r1) (As := [.int (xs (nI i + 1).toNatClampNeg), .int (xs (nI i + 2).toNatClampNeg)]) (rest := []) CF hM (cwV 2 hts gL_law_X7_priorityItem rfl rfl rfl (by decide +kernel) ⟨Nat.le_of_ble_eq_true rfl, Nat.le_of_ble_eq_true rfl⟩) hP hD hS hA hY rfl rfl (fst_Mo _ _ _ _ _) rfl hl.1 rfl (lv_room (Nat.le_of_ble_eq_true rfl)) dL_law_926 ⟨(show cells + 1 ≤ 1108 from hc), (show slots + 6 ≤ 14071 from hsl)⟩ (fun H locs hP hD hS => ?_)
  rw [List.append_nil] at hP hD
  refine lv_istore (lv' := [(6, .int b1), (5, .int kk), (0, .ref b), (1, .ref (ad 0)), (2, .ref (ae 0)), (3, .ref ou), (4, .int (nI i))]) hx hb dL_law_929 hl (by decide) rfl (fun ls hl => ?_)
  refine lv_aload_n hx hb dL_law_931 rfl (lv_at hl 4 rfl) ?_
  refine rdV (w0 := (wMo G ae 0 r1)) (As := []) (rest := []) CF (k_X7_thrown l G ae 0 r1) (cwV 0 hts gL_law_X7_thrown rfl rfl rfl (by decide +kernel) ⟨Nat.le_of_ble_eq_true rfl, Nat.le_of_ble_eq_true rfl⟩) hP.apr hY rfl rfl rfl hl.1 rfl (lv_room (Nat.le_of_ble_eq_true rfl)) dL_law_932 ⟨(show cells + 1 ≤ 1108 from hc), (show slots + 6 ≤ 14071 from hsl)⟩ ?_
  refine lv_iload hx hb dL_law_935 (lv_at hl 1 rfl) ?_
  refine lv_icmp_eq (tgt := 942) hx hb dL_law_937 (by decide) (fun _ => ?_) (fun hh => absurd e1 hh)
  refine lv_iload hx hb dL_law_942 (lv_at hl 1 rfl) ?_
  refine lv_if_ne (tgt := 959) hx hb dL_law_944 (by decide) (fun _ => ?_) (fun hk => ?_)
  · refine lv_goto (tgt := 1690) hx hb dL_law_959 (by decide) ?_
    exact next sg1 r1 fo1 H locs ls hR1 hP hD hS (lv_sub hl [2, 3, 4, 5, 6] rfl)
  refine lv_aload_n hx hb dL_law_947 rfl (lv_at hl 5 rfl) ?_
  refine lv_iconst (v := 0) hx hb dL_law_948 (by decide) ?_
  refine va_lald hx hb hY.1 hP 0 2 rfl rfl vp_0_1 dL_law_949 ?_
  refine lv_iload hx hb dL_law_950 (lv_at hl 0 rfl) ?_
  refine lv_i2l hx hb dL_law_952 rfl ?_
  refine W.lcmp hx hb dL_law_953 ?_
  refine lv_if_eq (tgt := 959) hx hb dL_law_954 (by decide) (fun _ => ?_) (fun hh => absurd ((lg_cmp_eq _ _).mpr (e2 hk)) hh)
  refine lv_goto (tgt := 1690) hx hb dL_law_959 (by decide) ?_
  exact next sg1 r1 fo1 H locs ls hR1 hP hD hS (lv_sub hl [2, 3, 4, 5, 6] rfl)
