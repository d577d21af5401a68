set_option maxHeartbeats 4000000 in
set_option maxRecDepth 100000 in
theorem lc_estimatedWeight {p : Program} {l : Launch} {e : Env} {s : State} {m : MethodId} {below : List Frame} {meth : Method} {c : Code} {G : GT} {b L : Nat} {xs : Nat → Int32} {Q : State → Prop} (C : LawAt p l s m meth c b L xs G) {i : Nat} (hi : i + 7 ≤ L) {ad ae : Nat → Nat} {ou : Nat} {sg : RRT} {r : MoT} {fo : Nat → Int64} (hR : Rel sg r) {H : Heap} {locs : List Loc} {cells slots : Nat} (hc : cells + 1 ≤ 1108) (hsl : slots + 6 ≤ 14071) (hP : va_P G.1 vwCl (([(ou, .inl (G.2.2.2, 1, .inr (.inl fo)))] ++ (wRR G ad 0 sg)) ++ wMo G ae 0 r) H) (hD : va_D (fun q : Nat => s.heap.size ≤ q) (([(ou, .inl (G.2.2.2, 1, .inr (.inl fo)))] ++ (wRR G ad 0 sg)) ++ wMo G ae 0 r)) (hS : va_S (fun q : Nat => s.heap.size ≤ q) s.heap H locs) {ls : Array Slot} (hl : lv_has ls 8 [(0, .ref b), (1, .ref (ad 0)), (2, .ref (ae 0)), (3, .ref ou), (4, .int (nI i))])
    (next : ∀ (sg : RRT) (r : MoT) (fo : Nat → Int64) (H : Heap) (locs : List Loc) (ls : Array Slot), Rel sg r → va_P G.1 vwCl (([(ou, .inl (G.2.2.2, 1, .inr (.inl fo)))] ++ (wRR G ad 0 sg)) ++ wMo G ae 0 r) H → va_D (fun q : Nat => s.heap.size ≤ q) (([(ou, .inl (G.2.2.2, 1, .inr (.inl fo)))] ++ (wRR G ad 0 sg)) ++ wMo G ae 0 r) → va_S (fun q : Nat => s.heap.size ≤ q) s.heap H locs → lv_has ls 8 [(0, .ref b), (1, .ref (ad 0)), (2, .ref (ae 0)), (3, .ref ou), (4, .int (nI i))] → W p l e room_1 s m #[Value.ref b] below meth c H locs (cells + 1) (slots + 6) Q (F0 m 1690 ls [])) :
    W p l e room_1 s m #[Value.ref b] below meth c H locs cells slots Q (F0 m 962 ls []) := by
  obtain ⟨⟨hx, hb, hr, hml, hown, hts0, hX, hbl, hlocks, hgv⟩, hl0, hY, hZ, hL⟩ := C
  have hts : ∀ w ∈ wsL_law, w.before #[Value.ref b] s = true := fun w h => hts0 w (wsL_law_in w h)
  have hown : s.vm.findClass RL = some m.cls := hown
  have CF : CallFix p m c cL_law 8 s #[Value.ref b] wsL_law RL := ⟨hx, hb, hml, hown, hts⟩
  have hA : ∀ q : Nat, s.heap.size ≤ q → (fun q : Nat => s.heap.size ≤ q) q := fun _ h => h
  have hbA : ¬ (fun q : Nat => s.heap.size ≤ q) b := Nat.not_le.mpr hbl
  refine lv_aload_n hx hb dL_law_962 rfl (lv_at hl 1 rfl) ?_
  refine lv_aload_n hx hb dL_law_963 rfl (lv_at hl 0 rfl) ?_
  refine lv_iload hx hb dL_law_964 (lv_at hl 4 rfl) ?_
  refine lv_iconst (v := 1) hx hb dL_law_966 (by decide) ?_
  refine lv_iadd hx hb dL_law_967 ?_
  refine va_sld hx hb hX hbl hbA hS (ix_1 hi hL) dL_law_968 ?_
  refine lv_aload_n hx hb dL_law_969 rfl (lv_at hl 0 rfl) ?_
  refine lv_iload hx hb dL_law_970 (lv_at hl 4 rfl) ?_
  refine lv_iconst (v := 2) hx hb dL_law_972 (by decide) ?_
  refine lv_iadd hx hb dL_law_973 ?_
  refine va_sld hx hb hX hbl hbA hS (ix_2 hi hL) dL_law_974 ?_
  refine lv_aload_n hx hb dL_law_975 rfl (lv_at hl 3 rfl) ?_
  obtain ⟨kk, fo1, sg1, b1, r1, hC, hM, e1, e2, hR1⟩ := ag_estimatedWeight l hl0 G ad 0 ae 0 hR (xs (nI i + 1).toNatClampNeg) (xs (nI i + 2).toNatClampNeg) ou fo
  refine caS [] ([(ou, .inl (G.2.2.2, 1, .inr (.inl fo)))] ++ (wRR G ad 0 sg)) (wMo G ae 0 r) ([(ou, .inl (G.2.2.2, 1, .inr (.inl fo1)))] ++ (wRR G ad 0 sg1)) (As := [.ref (ad 0), .int (xs (nI i + 1).toNatClampNeg), .int (xs (nI i + 2).toNatClampNeg), .ref ou]) (rest := []) CF hC (vx_cwSW 4 hts gL_law_L_estimatedWeight rfl rfl rfl (by decide +kernel) ⟨Nat.le_of_ble_eq_true rfl, Nat.le_of_ble_eq_true rfl⟩) hP hD hS hA hY hZ (fst_LR _ _ _ _ _ _ _ _) rfl hl.1 rfl (lv_room (Nat.le_of_ble_eq_true rfl)) dL_law_976 ⟨hc, hsl⟩ (fun H locs hP hD hS => ?_)
  have hP : va_P G.1 vwCl (([(ou, .inl (G.2.2.2, 1, .inr (.inl fo1)))] ++ (wRR G ad 0 sg1)) ++ wMo G ae 0 r) H := hP
  have hD : va_D (fun q : Nat => s.heap.size ≤ q) (([(ou, .inl (G.2.2.2, 1, .inr (.inl fo1)))] ++ (wRR G ad 0 sg1)) ++ wMo G ae 0 r) := hD
  refine lv_istore (lv' := [(5, .int kk), (0, .ref b), (1, .ref (ad 0)), (2, .ref (ae 0)), (3, .ref ou), (4, .int (nI i))]) hx hb dL_law_979 hl (by decide) rfl (fun ls hl => ?_)
  refine lv_aload_n hx hb dL_law_981 rfl (lv_at hl 3 rfl) ?_
  refine lv_aload_n hx hb dL_law_982 rfl (lv_at hl 1 rfl) ?_
  refine lv_iload hx hb dL_law_983 (lv_at hl 5 rfl) ?_
  refine lv_iconst (v := 1) hx hb dL_law_985 (by decide) ?_
  refine lv_iadd hx hb dL_law_986 ?_
  refine va_sld hx hb hX hbl hbA hS (ix_1 hi hL) dL_law_987 ?_
  refine lv_aload_n hx hb dL_law_988 rfl (lv_at hl 1 rfl) ?_
  refine lv_iload hx hb dL_law_989 (lv_at hl 5 rfl) ?_
  refine lv_iconst (v := 2) hx hb dL_law_991 (by decide) ?_
  refine lv_iadd hx hb dL_law_992 ?_
  refine va_sld hx hb hX hbl hbA hS (ix_2 hi hL) dL_law_993 ?_
  rw [← List.append_nil (wMo G ae 0 r)] at hP hD
  refine wrV ([(ou, .inl (G.2.2.2, 1, .inr (.inl fo1)))] ++ (wRR G ad 0 sg1)) (wMo G ae 0 r) [] (wMo G ae 0 r1) (As := [.int (xs (nI i + 1).toNatClampNeg), .int (xs (nI i + 2).toNatClampNeg)]) (rest := []) CF hM (cwV 2 hts gL_law_X7_estimatedWeight rfl rfl rfl (by decide +kernel) ⟨Nat.le_of_ble_eq_true rfl, Nat.le_of_ble_eq_true rfl⟩) hP hD hS hA hY rfl rfl (fst_Mo _ _ _ _ _) rfl hl.1 rfl (lv_room (Nat.le_of_ble_eq_true rfl)) dL_law_994 ⟨(show cells + 1 ≤ 1108 from hc), (show slots + 6 ≤ 14071 from hsl)⟩ (fun H locs hP hD hS => ?_)
  rw [List.append_nil] at hP hD
  refine lv_lstore (lv' := [(6, .long b1), (5, .int kk), (0, .ref b), (1, .ref (ad 0)), (2, .ref (ae 0)), (3, .ref ou), (4, .int (nI i))]) hx hb dL_law_997 hl (by decide) rfl (fun ls hl => ?_)
  refine lv_aload_n hx hb dL_law_999 rfl (lv_at hl 4 rfl) ?_
  refine rdV (w0 := (wMo G ae 0 r1)) (As := []) (rest := []) CF (k_X7_thrown l G ae 0 r1) (cwV 0 hts gL_law_X7_thrown rfl rfl rfl (by decide +kernel) ⟨Nat.le_of_ble_eq_true rfl, Nat.le_of_ble_eq_true rfl⟩) hP.apr hY rfl rfl rfl hl.1 rfl (lv_room (Nat.le_of_ble_eq_true rfl)) dL_law_1000 ⟨(show cells + 1 ≤ 1108 from hc), (show slots + 6 ≤ 14071 from hsl)⟩ ?_
  refine lv_iload hx hb dL_law_1003 (lv_at hl 1 rfl) ?_
  refine lv_icmp_eq (tgt := 1010) hx hb dL_law_1005 (by decide) (fun _ => ?_) (fun hh => absurd e1 hh)
  refine lv_iload hx hb dL_law_1010 (lv_at hl 1 rfl) ?_
  refine lv_if_ne (tgt := 1026) hx hb dL_law_1012 (by decide) (fun _ => ?_) (fun hk => ?_)
  · refine lv_goto (tgt := 1690) hx hb dL_law_1026 (by decide) ?_
    exact next sg1 r1 fo1 H locs ls hR1 hP hD hS (lv_sub hl [2, 3, 4, 5, 6] rfl)
  refine lv_aload_n hx hb dL_law_1015 rfl (lv_at hl 5 rfl) ?_
  refine lv_iconst (v := 0) hx hb dL_law_1016 (by decide) ?_
  refine va_lald hx hb hY.1 hP 0 2 rfl rfl vp_0_1 dL_law_1017 ?_
  refine lv_lload hx hb dL_law_1018 (lv_at hl 0 rfl) ?_
  refine W.lcmp hx hb dL_law_1020 ?_
  refine lv_if_eq (tgt := 1026) hx hb dL_law_1021 (by decide) (fun _ => ?_) (fun hh => absurd ((lg_cmp_eq _ _).mpr (e2 hk)) hh)
  refine lv_goto (tgt := 1690) hx hb dL_law_1026 (by decide) ?_
  exact next sg1 r1 fo1 H locs ls hR1 hP hD hS (lv_sub hl [2, 3, 4, 5, 6] rfl)

set_option maxHeartbeats 4000000 in
set_option maxRecDepth 100000 in
theorem lc_threshold {p : Program} {l : Launch} {e : Env} {s : State} {m : MethodId} {below : List Frame} {meth : Method} {c : Code} {G : GT} {b L : Nat} {xs : Nat → Int32} {Q : State → Prop} (C : LawAt p l s m meth c b L xs G) {i : Nat} (hi : i + 7 ≤ L) {ad ae : Nat → Nat} {ou : Nat} {sg : RRT} {r : MoT} {fo : Nat → Int64} (hR : Rel sg r) {H : Heap} {locs : List Loc} {cells slots : Nat} (hc : cells + 1 ≤ 1108) (hsl : slots + 6 ≤ 14071) (hP : va_P G.1 vwCl (([(ou, .inl (G.2.2.2, 1, .inr (.inl fo)))] ++ (wRR G ad 0 sg)) ++ wMo G ae 0 r) H) (hD : va_D (fun q : Nat => s.heap.size ≤ q) (([(ou, .inl (G.2.2.2, 1, .inr (.inl fo)))] ++ (wRR G ad 0 sg)) ++ wMo G ae 0 r)) (hS : va_S (fun q : Nat => s.heap.size ≤ q) s.heap H locs) {ls : Array Slot} (hl : lv_has ls 8 [(0, .ref b), (1, .ref (ad 0)), (2, .ref (ae 0)), (3, .ref ou), (4, .int (nI i))])
    (next : ∀ (sg : RRT) (r : MoT) (fo : Nat → Int64) (H : Heap) (locs : List Loc) (ls : Array Slot), Rel sg r → va_P G.1 vwCl (([(ou, .inl (G.2.2.2, 1, .inr (.inl fo)))] ++ (wRR G ad 0 sg)) ++ wMo G ae 0 r) H → va_D (fun q : Nat => s.heap.size ≤ q) (([(ou, .inl (G.2.2.2, 1, .inr (.inl fo)))] ++ (wRR G ad 0 sg)) ++ wMo G ae 0 r) → va_S (fun q : Nat => s.heap.size ≤ q) s.heap H locs → lv_has ls 8 [(0, .ref b), (1, .ref (ad 0)), (2, .ref (ae 0)), (3, .ref ou), (4, .int (nI i))] → W p l e room_1 s m #[Value.ref b] below meth c H locs (cells + 1) (slots + 6) Q (F0 m 1690 ls [])) :
    W p l e room_1 s m #[Value.ref b] below meth c H locs cells slots Q (F0 m 1029 ls []) := by
  obtain ⟨⟨hx, hb, hr, hml, hown, hts0, hX, hbl, hlocks, hgv⟩, hl0, hY, hZ, hL⟩ := C
  have hts : ∀ w ∈ wsL_law, w.before #[Value.ref b] s = true := fun w h => hts0 w (wsL_law_in w h)
  have hown : s.vm.findClass RL = some m.cls := hown
  have CF : CallFix p m c cL_law 8 s #[Value.ref b] wsL_law RL := ⟨hx, hb, hml, hown, hts⟩
  have hA : ∀ q : Nat, s.heap.size ≤ q → (fun q : Nat => s.heap.size ≤ q) q := fun _ h => h
  have hbA : ¬ (fun q : Nat => s.heap.size ≤ q) b := Nat.not_le.mpr hbl
  refine lv_aload_n hx hb dL_law_1029 rfl (lv_at hl 1 rfl) ?_
  refine lv_aload_n hx hb dL_law_1030 rfl (lv_at hl 0 rfl) ?_
  refine lv_iload hx hb dL_law_1031 (lv_at hl 4 rfl) ?_
  refine lv_iconst (v := 1) hx hb dL_law_1033 (by decide) ?_
  refine lv_iadd hx hb dL_law_1034 ?_
  refine va_sld hx hb hX hbl hbA hS (ix_1 hi hL) dL_law_1035 ?_
  refine lv_aload_n hx hb dL_law_1036 rfl (lv_at hl 3 rfl) ?_
  obtain ⟨kk, fo1, sg1, b1, r1, hC, hM, e1, e2, hR1⟩ := ag_threshold l hl0 G ad 0 ae 0 hR (xs (nI i + 1).toNatClampNeg) ou fo
  refine caS [] ([(ou, .inl (G.2.2.2, 1, .inr (.inl fo)))] ++ (wRR G ad 0 sg)) (wMo G ae 0 r) ([(ou, .inl (G.2.2.2, 1, .inr (.inl fo1)))] ++ (wRR G ad 0 sg1)) (As := [.ref (ad 0), .int (xs (nI i + 1).toNatClampNeg), .ref ou]) (rest := []) CF hC (vx_cwSW 3 hts gL_law_L_threshold rfl rfl rfl (by decide +kernel) ⟨Nat.le_of_ble_eq_true rfl, Nat.le_of_ble_eq_true rfl⟩) hP hD hS hA hY hZ (fst_LR _ _ _ _ _ _ _ _) rfl hl.1 rfl (lv_room (Nat.le_of_ble_eq_true rfl)) dL_law_1037 ⟨hc, hsl⟩ (fun H locs hP hD hS => ?_)
  have hP : va_P G.1 vwCl (([(ou, .inl (G.2.2.2, 1, .inr (.inl fo1)))] ++ (wRR G ad 0 sg1)) ++ wMo G ae 0 r) H := hP
  have hD : va_D (fun q : Nat => s.heap.size ≤ q) (([(ou, .inl (G.2.2.2, 1, .inr (.inl fo1)))] ++ (wRR G ad 0 sg1)) ++ wMo G ae 0 r) := hD
  refine lv_istore (lv' := [(5, .int kk), (0, .ref b), (1, .ref (ad 0)), (2, .ref (ae 0)), (3, .ref ou), (4, .int (nI i))]) hx hb dL_law_1040 hl (by decide) rfl (fun ls hl => ?_)
  refine lv_aload_n hx hb dL_law_1042 rfl (lv_at hl 3 rfl) ?_
  refine lv_aload_n hx hb dL_law_1043 rfl (lv_at hl 1 rfl) ?_
  refine lv_iload hx hb dL_law_1044 (lv_at hl 5 rfl) ?_
  refine lv_iconst (v := 1) hx hb dL_law_1046 (by decide) ?_
  refine lv_iadd hx hb dL_law_1047 ?_
  refine va_sld hx hb hX hbl hbA hS (ix_1 hi hL) dL_law_1048 ?_
  rw [← List.append_nil (wMo G ae 0 r)] at hP hD
  refine wrV ([(ou, .inl (G.2.2.2, 1, .inr (.inl fo1)))] ++ (wRR G ad 0 sg1)) (wMo G ae 0 r) [] (wMo G ae 0 r1) (As := [.int (xs (nI i + 1).toNatClampNeg)]) (rest := []) CF hM (cwV 1 hts gL_law_X7_threshold rfl rfl rfl (by decide +kernel) ⟨Nat.le_of_ble_eq_true rfl, Nat.le_of_ble_eq_true rfl⟩) hP hD hS hA hY rfl rfl (fst_Mo _ _ _ _ _) rfl hl.1 rfl (lv_room (Nat.le_of_ble_eq_true rfl)) dL_law_1049 ⟨(show cells + 1 ≤ 1108 from hc), (show slots + 6 ≤ 14071 from hsl)⟩ (fun H locs hP hD hS => ?_)
  rw [List.append_nil] at hP hD
  refine lv_lstore (lv' := [(6, .long b1), (5, .int kk), (0, .ref b), (1, .ref (ad 0)), (2, .ref (ae 0)), (3, .ref ou), (4, .int (nI i))]) hx hb dL_law_1052 hl (by decide) rfl (fun ls hl => ?_)
  refine lv_aload_n hx hb dL_law_1054 rfl (lv_at hl 4 rfl) ?_
  refine rdV (w0 := (wMo G ae 0 r1)) (As := []) (rest := []) CF (k_X7_thrown l G ae 0 r1) (cwV 0 hts gL_law_X7_thrown rfl rfl rfl (by decide +kernel) ⟨Nat.le_of_ble_eq_true rfl, Nat.le_of_ble_eq_true rfl⟩) hP.apr hY rfl rfl rfl hl.1 rfl (lv_room (Nat.le_of_ble_eq_true rfl)) dL_law_1055 ⟨(show cells + 1 ≤ 1108 from hc), (show slots + 6 ≤ 14071 from hsl)⟩ ?_
  refine lv_iload hx hb dL_law_1058 (lv_at hl 1 rfl) ?_
  refine lv_icmp_eq (tgt := 1065) hx hb dL_law_1060 (by decide) (fun _ => ?_) (fun hh => absurd e1 hh)
  refine lv_iload hx hb dL_law_1065 (lv_at hl 1 rfl) ?_
  refine lv_if_ne (tgt := 1081) hx hb dL_law_1067 (by decide) (fun _ => ?_) (fun hk => ?_)
  · refine lv_goto (tgt := 1690) hx hb dL_law_1081 (by decide) ?_
    exact next sg1 r1 fo1 H locs ls hR1 hP hD hS (lv_sub hl [2, 3, 4, 5, 6] rfl)
  refine lv_aload_n hx hb dL_law_1070 rfl (lv_at hl 5 rfl) ?_
  refine lv_iconst (v := 0) hx hb dL_law_1071 (by decide) ?_
  refine va_lald hx hb hY.1 hP 0 2 rfl rfl vp_0_1 dL_law_1072 ?_
  refine lv_lload hx hb dL_law_1073 (lv_at hl 0 rfl) ?_
  refine W.lcmp hx hb dL_law_1075 ?_
  refine lv_if_eq (tgt := 1081) hx hb dL_law_1076 (by decide) (fun _ => ?_) (fun hh => absurd ((lg_cmp_eq _ _).mpr (e2 hk)) hh)
  refine lv_goto (tgt := 1690) hx hb dL_law_1081 (by decide) ?_
  exact next sg1 r1 fo1 H locs ls hR1 hP hD hS (lv_sub hl [2, 3, 4, 5, 6] rfl)

set_option maxHeartbeats 4000000 in
set_option maxRecDepth 100000 in
theorem lc_estimate {p : Program} {l : Launch} {e : Env} {s : State} {m : MethodId} {below : List Frame} {meth : Method} {c : Code} {G : GT} {b L : Nat} {xs : Nat → Int32} {Q : State → Prop} (C : LawAt p l s m meth c b L xs G) {i : Nat} (hi : i + 7 ≤ L) {ad ae : Nat → Nat} {ou : Nat} {sg : RRT} {r : MoT} {fo : Nat → Int64} (hR : Rel sg r) {H : Heap} {locs : List Loc} {cells slots : Nat} (hc : cells + 1 ≤ 1108) (hsl : slots + 6 ≤ 14071) (hP : va_P G.1 vwCl (([(ou, .inl (G.2.2.2, 1, .inr (.inl fo)))] ++ (wRR G ad 0 sg)) ++ wMo G ae 0 r) H) (hD : va_D (fun q : Nat => s.heap.size ≤ q) (([(ou, .inl (G.2.2.2, 1, .inr (.inl fo)))] ++ (wRR G ad 0 sg)) ++ wMo G ae 0 r)) (hS : va_S (fun q : Nat => s.heap.size ≤ q) s.heap H locs) {ls : Array Slot} (hl : lv_has ls 8 [(0, .ref b), (1, .ref (ad 0)), (2, .ref (ae 0)), (3, .ref ou), (4, .int (nI i))])
    (next : ∀ (sg : RRT) (r : MoT) (fo : Nat → Int64) (H : Heap) (locs : List Loc) (ls : Array Slot), Rel sg r → va_P G.1 vwCl (([(ou, .inl (G.2.2.2, 1, .inr (.inl fo)))] ++ (wRR G ad 0 sg)) ++ wMo G ae 0 r) H → va_D (fun q : Nat => s.heap.size ≤ q) (([(ou, .inl (G.2.2.2, 1, .inr (.inl fo)))] ++ (wRR G ad 0 sg)) ++ wMo G ae 0 r) → va_S (fun q : Nat => s.heap.size ≤ q) s.heap H locs → lv_has ls 8 [(0, .ref b), (1, .ref (ad 0)), (2, .ref (ae 0)), (3, .ref ou), (4, .int (nI i))] → W p l e room_1 s m #[Value.ref b] below meth c H locs (cells + 1) (slots + 6) Q (F0 m 1690 ls [])) :
    W p l e room_1 s m #[Value.ref b] below meth c H locs cells slots Q (F0 m 1084 ls []) := by
  obtain ⟨⟨hx, hb, hr, hml, hown, hts0, hX, hbl, hlocks, hgv⟩, hl0, hY, hZ, hL⟩ := C
  have hts : ∀ w ∈ wsL_law, w.before #[Value.ref b] s = true := fun w h => hts0 w (wsL_law_in w h)
  have hown : s.vm.findClass RL = some m.cls := hown
  have CF : CallFix p m c cL_law 8 s #[Value.ref b] wsL_law RL := ⟨hx, hb, hml, hown, hts⟩
  have hA : ∀ q : Nat, s.heap.size ≤ q → (fun q : Nat => s.heap.size ≤ q) q := fun _ h => h
  have hbA : ¬ (fun q : Nat => s.heap.size ≤ q) b := Nat.not_le.mpr hbl
  refine lv_aload_n hx hb dL_law_1084 rfl (lv_at hl 1 rfl) ?_
  refine lv_aload_n hx hb dL_law_1085 rfl (lv_at hl 0 rfl) ?_
  refine lv_iload hx hb dL_law_1086 (lv_at hl 4 rfl) ?_
  refine lv_iconst (v := 1) hx hb dL_law_1088 (by decide) ?_
  refine lv_iadd hx hb dL_law_1089 ?_
  refine va_sld hx hb hX hbl hbA hS (ix_1 hi hL) dL_law_1090 ?_
  refine lv_aload_n hx hb dL_law_1091 rfl (lv_at hl 0 rfl) ?_
  refine lv_iload hx hb dL_law_1092 (lv_at hl 4 rfl) ?_
  refine lv_iconst (v := 2) hx hb dL_law_1094 (by decide) ?_
  refine lv_iadd hx hb dL_law_1095 ?_
  refine va_sld hx hb hX hbl hbA hS (ix_2 hi hL) dL_law_1096 ?_
  refine lv_aload_n hx hb dL_law_1097 rfl (lv_at hl 3 rfl) ?_
  obtain ⟨kk, fo1, sg1, b1, r1, hC, hM, e1, e2, hR1⟩ := ag_estimate l hl0 G ad 0 ae 0 hR (xs (nI i + 1).toNatClampNeg) (xs (nI i + 2).toNatClampNeg) ou fo
  refine caS [] ([(ou, .inl (G.2.2.2, 1, .inr (.inl fo)))] ++ (wRR G ad 0 sg)) (wMo G ae 0 r) ([(ou, .inl (G.2.2.2, 1, .inr (.inl fo1)))] ++ (wRR G ad 0 sg1)) (As := [.ref (ad 0), .int (xs (nI i + 1).toNatClampNeg), .int (xs (nI i + 2).toNatClampNeg), .ref ou]) (rest := []) CF hC (vx_cwSW 4 hts gL_law_L_estimate rfl rfl rfl (by decide +kernel) ⟨Nat.le_of_ble_eq_true rfl, Nat.le_of_ble_eq_true rfl⟩) hP hD hS hA hY hZ (fst_LR _ _ _ _ _ _ _ _) rfl hl.1 rfl (lv_room (Nat.le_of_ble_eq_true rfl)) dL_law_1098 ⟨hc, hsl⟩ (fun H locs hP hD hS => ?_)
  have hP : va_P G.1 vwCl (([(ou, .inl (G.2.2.2, 1, .inr (.inl fo1)))] ++ (wRR G ad 0 sg1)) ++ wMo G ae 0 r) H := hP
  have hD : va_D (fun q : Nat => s.heap.size ≤ q) (([(ou, .inl (G.2.2.2, 1, .inr (.inl fo1)))] ++ (wRR G ad 0 sg1)) ++ wMo G ae 0 r) := hD
  refine lv_istore (lv' := [(5, .int kk), (0, .ref b), (1, .ref (ad 0)), (2, .ref (ae 0)), (3, .ref ou), (4, .int (nI i))]) hx hb dL_law_1101 hl (by decide) rfl (fun ls hl => ?_)
  refine lv_aload_n hx hb dL_law_1103 rfl (lv_at hl 3 rfl) ?_
  refine lv_aload_n hx hb dL_law_1104 rfl (lv_at hl 1 rfl) ?_
  refine lv_iload hx hb dL_law_1105 (lv_at hl 5 rfl) ?_
  refine lv_iconst (v := 1) hx hb dL_law_1107 (by decide) ?_
  refine lv_iadd hx hb dL_law_1108 ?_
  refine va_sld hx hb hX hbl hbA hS (ix_1 hi hL) dL_law_1109 ?_
  refine lv_aload_n hx hb dL_law_1110 rfl (lv_at hl 1 rfl) ?_
  refine lv_iload hx hb dL_law_1111 (lv_at hl 5 rfl) ?_
  refine lv_iconst (v := 2) hx hb dL_law_1113 (by decide) ?_
  refine lv_iadd hx hb dL_law_1114 ?_
  refine va_sld hx hb hX hbl hbA hS (ix_2 hi hL) dL_law_1115 ?_
  rw [← List.append_nil (wMo G ae 0 r)] at hP hD
  refine wrV ([(ou, .inl (G.2.2.2, 1, .inr (.inl fo1)))] ++ (wRR G ad 0 sg1)) (wMo G ae 0 r) [] (wMo G ae 0 r1) (As := [.int (xs (nI i + 1).toNatClampNeg), .int (xs (nI i + 2).toNatClampNeg)]) (rest := []) CF hM (cwV 2 hts gL_law_X7_estimate rfl rfl rfl (by decide +kernel) ⟨Nat.le_of_ble_eq_true rfl, Nat.le_of_ble_eq_true rfl⟩) hP hD hS hA hY rfl rfl (fst_Mo _ _ _ _ _) rfl hl.1 rfl (lv_room (Nat.le_of_ble_eq_true rfl)) dL_law_1116 ⟨(show cells + 1 ≤ 1108 from hc), (show slots + 6 ≤ 14071 from hsl)⟩ (fun H locs hP hD hS => ?_)
  rw [List.append_nil] at hP hD
  refine lv_lstore (lv' := [(6, .long b1), (5, .int kk), (0, .ref b), (1, .ref (ad 0)), (2, .ref (ae 0)), (3, .ref ou), (4, .int (nI i))]) hx hb dL_law_1119 hl (by decide) rfl (fun ls hl => ?_)
  refine lv_aload_n hx hb dL_law_1121 rfl (lv_at hl 4 rfl) ?_
  refine rdV (w0 := (wMo G ae 0 r1)) (As := []) (rest := []) CF (k_X7_thrown l G ae 0 r1) (cwV 0 hts gL_law_X7_thrown rfl rfl rfl (by decide +kernel) ⟨Nat.le_of_ble_eq_true rfl, Nat.le_of_ble_eq_true rfl⟩) hP.apr hY rfl rfl rfl hl.1 rfl (lv_room (Nat.le_of_ble_eq_true rfl)) dL_law_1122 ⟨(show cells + 1 ≤ 1108 from hc), (show slots + 6 ≤ 14071 from hsl)⟩ ?_
  refine lv_iload hx hb dL_law_1125 (lv_at hl 1 rfl) ?_
  refine lv_icmp_eq (tgt := 1132) hx hb dL_law_1127 (by decide) (fun _ => ?_) (fun hh => absurd e1 hh)
  refine lv_iload hx hb dL_law_1132 (lv_at hl 1 rfl) ?_
  refine lv_if_ne (tgt := 1148) hx hb dL_law_1134 (by decide) (fun _ => ?_) (fun hk => ?_)
  · refine lv_goto (tgt := 1690) hx hb dL_law_1148 (by decide) ?_
    exact next sg1 r1 fo1 H locs ls hR1 hP hD hS (lv_sub hl [2, 3, 4, 5, 6] rfl)
  refine lv_aload_n hx hb dL_law_1137 rfl (lv_at hl 5 rfl) ?_
  refine lv_iconst (v := 0) hx hb dL_law_1138 (by decide) ?_
  refine va_lald hx hb hY.1 hP 0 2 rfl rfl vp_0_1 dL_law_1139 ?_
  refine lv_lload hx hb dL_law_1140 (lv_at hl 0 rfl) ?_
  refine W.lcmp hx hb dL_law_1142 ?_
  refine lv_if_eq (tgt := 1148) hx hb dL_law_1143 (by decide) (fun _ => ?_) (fun hh => absurd ((lg_cmp_eq _ _).mpr (e2 hk)) hh)
  refine lv_goto (tgt := 1690) hx hb dL_law_1148 (by decide) ?_
  exact next sg1 r1 fo1 H locs ls hR1 hP hD hS (lv_sub hl [2, 3, 4, 5, 6] rfl)

set_option maxHeartbeats 4000000 in
set_option maxRecDepth 100000 in
theorem lc_sampledWeight {p : Program} {l : Launch} {e : Env} {s : State} {m : MethodId} {below : List Frame} {meth : Method} {c : Code} {G : GT} {b L : Nat} {xs : Nat → Int32} {Q : State → Prop} (C : LawAt p l s m meth c b L xs G) {i : Nat} (hi : i + 7 ≤ L) {ad ae : Nat → Nat} {ou : Nat} {sg : RRT} {r : MoT} {fo : Nat → Int64} (hR : Rel sg r) {H : Heap} {locs : List Loc} {cells slots : Nat} (hc : cells + 1 ≤ 1108) (hsl : slots + 6 ≤ 14071) (hP : va_P G.1 vwCl (([(ou, .inl (G.2.2.2, 1, .inr (.inl fo)))] ++ (wRR G ad 0 sg)) ++ wMo G ae 0 r) H) (hD : va_D (fun q : Nat => s.heap.size ≤ q) (([(ou, .inl (G.2.2.2, 1, .inr (.inl fo)))] ++ (wRR G ad 0 sg)) ++ wMo G ae 0 r)) (hS : va_S (fun q : Nat => s.heap.size ≤ q) s.heap H locs) {ls : Array Slot} (hl : lv_has ls 8 [(0, .ref b), (1, .ref (ad 0)), (2, .ref (ae 0)), (3, .ref ou), (4, .int (nI i))])
    (next : ∀ (sg : RRT) (r : MoT) (fo : Nat → Int64) (H : Heap) (locs : List Loc) (ls : Array Slot), Rel sg r → va_P G.1 vwCl (([(ou, .inl (G.2.2.2, 1, .inr (.inl fo)))] ++ (wRR G ad 0 sg)) ++ wMo G ae 0 r) H → va_D (fun q : Nat => s.heap.size ≤ q) (([(ou, .inl (G.2.2.2, 1, .inr (.inl fo)))] ++ (wRR G ad 0 sg)) ++ wMo G ae 0 r) → va_S (fun q : Nat => s.heap.size ≤ q) s.heap H locs → lv_has ls 8 [(0, .ref b), (1, .ref (ad 0)), (2, .ref (ae 0)), (3, .ref ou), (4, .int (nI i))] → W p l e room_1 s m #[Value.ref b] below meth c H locs (cells + 1) (slots + 6) Q (F0 m 1690 ls [])) :
    W p l e room_1 s m #[Value.ref b] below meth c H locs cells slots Q (F0 m 1151 ls []) := by
  obtain ⟨⟨hx, hb, hr, hml, hown, hts0, hX, hbl, hlocks, hgv⟩, hl0, hY, hZ, hL⟩ := C
  have hts : ∀ w ∈ wsL_law, w.before #[Value.ref b] s = true := fun w h => hts0 w (wsL_law_in w h)
  have hown : s.vm.findClass RL = some m.cls := hown
  have CF : CallFix p m c cL_law 8 s #[Value.ref b] wsL_law RL := ⟨hx, hb, hml, hown, hts⟩
  have hA : ∀ q : Nat, s.heap.size ≤ q → (fun q : Nat => s.heap.size ≤ q) q := fun _ h => h
  have hbA : ¬ (fun q : Nat => s.heap.size ≤ q) b := Nat.not_le.mpr hbl
  refine lv_aload_n hx hb dL_law_1151 rfl (lv_at hl 1 rfl) ?_
  refine lv_aload_n hx hb dL_law_1152 rfl (lv_at hl 0 rfl) ?_
  refine lv_iload hx hb dL_law_1153 (lv_at hl 4 rfl) ?_
  refine lv_iconst (v := 1) hx hb dL_law_1155 (by decide) ?_
  refine lv_iadd hx hb dL_law_1156 ?_
  refine va_sld hx hb hX hbl hbA hS (ix_1 hi hL) dL_law_1157 ?_
  refine lv_aload_n hx hb dL_law_1158 rfl (lv_at hl 0 rfl) ?_
  refine lv_iload hx hb dL_law_1159 (lv_at hl 4 rfl) ?_
  refine lv_iconst (v := 2) hx hb dL_law_1161 (by decide) ?_
  refine lv_iadd hx hb dL_law_1162 ?_
  refine va_sld hx hb hX hbl hbA hS (ix_2 hi hL) dL_law_1163 ?_
  refine lv_aload_n hx hb dL_law_1164 rfl (lv_at hl 3 rfl) ?_
  obtain ⟨kk, fo1, sg1, b1, r1, hC, hM, e1, e2, hR1⟩ := ag_sampledWeight l hl0 G ad 0 ae 0 hR (xs (nI i + 1).toNatClampNeg) (xs (nI i + 2).toNatClampNeg) ou fo
  refine caS [] ([(ou, .inl (G.2.2.2, 1, .inr (.inl fo)))] ++ (wRR G ad 0 sg)) (wMo G ae 0 r) ([(ou, .inl (G.2.2.2, 1, .inr (.inl fo1)))] ++ (wRR G ad 0 sg1)) (As := [.ref (ad 0), .int (xs (nI i + 1).toNatClampNeg), .int (xs (nI i + 2).toNatClampNeg), .ref ou]) (rest := []) CF hC (vx_cwSW 4 hts gL_law_L_sampledWeight rfl rfl rfl (by decide +kernel) ⟨Nat.le_of_ble_eq_true rfl, Nat.le_of_ble_eq_true rfl⟩) hP hD hS hA hY hZ (fst_LR _ _ _ _ _ _ _ _) rfl hl.1 rfl (lv_room (Nat.le_of_ble_eq_true rfl)) dL_law_1165 ⟨hc, hsl⟩ (fun H locs hP hD hS => ?_)
  have hP : va_P G.1 vwCl (([(ou, .inl (G.2.2.2, 1, .inr (.inl fo1)))] ++ (wRR G ad 0 sg1)) ++ wMo G ae 0 r) H := hP
  have hD : va_D (fun q : Nat => s.heap.size ≤ q) (([(ou, .inl (G.2.2.2, 1, .inr (.inl fo1)))] ++ (wRR G ad 0 sg1)) ++ wMo G ae 0 r) := hD
  refine lv_istore (lv' := [(5, .int kk), (0, .ref b), (1, .ref (ad 0)), (2, .ref (ae 0)), (3, .ref ou), (4, .int (nI i))]) hx hb dL_law_1168 hl (by decide) rfl (fun ls hl => ?_)
  refine lv_aload_n hx hb dL_law_1170 rfl (lv_at hl 3 rfl) ?_
  refine lv_aload_n hx hb dL_law_1171 rfl (lv_at hl 1 rfl) ?_
  refine lv_iload hx hb dL_law_1172 (lv_at hl 5 rfl) ?_
  refine lv_iconst (v := 1) hx hb dL_law_1174 (by decide) ?_
  refine lv_iadd hx hb dL_law_1175 ?_
  refine va_sld hx hb hX hbl hbA hS (ix_1 hi hL) dL_law_1176 ?_
  refine lv_aload_n hx hb dL_law_1177 rfl (lv_at hl 1 rfl) ?_
  refine lv_iload hx hb dL_law_1178 (lv_at hl 5 rfl) ?_
  refine lv_iconst (v := 2) hx hb dL_law_1180 (by decide) ?_
  refine lv_iadd hx hb dL_law_1181 ?_
  refine va_sld hx hb hX hbl hbA hS (ix_2 hi hL) dL_law_1182 ?_
  rw [← List.append_nil (wMo G ae 0 r)] at hP hD
  refine wrV ([(ou, .inl (G.2.2.2, 1, .inr (.inl fo1)))] ++ (wRR G ad 0 sg1)) (wMo G ae 0 r) [] (wMo G ae 0 r1) (As := [.int (xs (nI i + 1).toNatClampNeg), .int (xs (nI i + 2).toNatClampNeg)]) (rest := []) CF hM (cwV 2 hts gL_law_X7_sampledWeight rfl rfl rfl (by decide +kernel) ⟨Nat.le_of_ble_eq_true rfl, Nat.le_of_ble_eq_true rfl⟩) hP hD hS hA hY rfl rfl (fst_Mo _ _ _ _ _) rfl hl.1 rfl (lv_room (Nat.le_of_ble_eq_true rfl)) dL_law_1183 ⟨(show cells + 1 ≤ 1108 from hc), (show slots + 6 ≤ 14071 from hsl)⟩ (fun H locs hP hD hS => ?_)
  rw [List.append_nil] at hP hD
  refine lv_istore (lv' := [(6, .int b1), (5, .int kk), (0, .ref b), (1, .ref (ad 0)), (2, .ref (ae 0)), (3, .ref ou), (4, .int (nI i))]) hx hb dL_law_1186 hl (by decide) rfl (fun ls hl => ?_)
  refine lv_aload_n hx hb dL_law_1188 rfl (lv_at hl 4 rfl) ?_
  refine rdV (w0 := (wMo G ae 0 r1)) (As := []) (rest := []) CF (k_X7_thrown l G ae 0 r1) (cwV 0 hts gL_law_X7_thrown rfl rfl rfl (by decide +kernel) ⟨Nat.le_of_ble_eq_true rfl, Nat.le_of_ble_eq_true rfl⟩) hP.apr hY rfl rfl rfl hl.1 rfl (lv_room (Nat.le_of_ble_eq_true rfl)) dL_law_1189 ⟨(show cells + 1 ≤ 1108 from hc), (show slots + 6 ≤ 14071 from hsl)⟩ ?_
  refine lv_iload hx hb dL_law_1192 (lv_at hl 1 rfl) ?_
  refine lv_icmp_eq (tgt := 1199) hx hb dL_law_1194 (by decide) (fun _ => ?_) (fun hh => absurd e1 hh)
  refine lv_iload hx hb dL_law_1199 (lv_at hl 1 rfl) ?_
  refine lv_if_ne (tgt := 1216) hx hb dL_law_1201 (by decide) (fun _ => ?_) (fun hk => ?_)
  · refine lv_goto (tgt := 1690) hx hb dL_law_1216 (by decide) ?_
    exact next sg1 r1 fo1 H locs ls hR1 hP hD hS (lv_sub hl [2, 3, 4, 5, 6] rfl)
  refine lv_aload_n hx hb dL_law_1204 rfl (lv_at hl 5 rfl) ?_
  refine lv_iconst (v := 0) hx hb dL_law_1205 (by decide) ?_
  refine va_lald hx hb hY.1 hP 0 2 rfl rfl vp_0_1 dL_law_1206 ?_
  refine lv_iload hx hb dL_law_1207 (lv_at hl 0 rfl) ?_
  refine lv_i2l hx hb dL_law_1209 rfl ?_
  refine W.lcmp hx hb dL_law_1210 ?_
  refine lv_if_eq (tgt := 1216) hx hb dL_law_1211 (by decide) (fun _ => ?_) (fun hh => absurd ((lg_cmp_eq _ _).mpr (e2 hk)) hh)
  refine lv_goto (tgt := 1690) hx hb dL_law_1216 (by decide) ?_
  exact next sg1 r1 fo1 H locs ls hR1 hP hD hS (lv_sub hl [2, 3, 4, 5, 6] rfl)

set_option maxHeartbeats 4000000 in
set_option maxRecDepth 100000 in
theorem lc_distinctSize {p : Program} {l : Launch} {e : Env} {s : State} {m : MethodId} {below : List Frame} {meth : Method} {c : Code} {G : GT} {b L : Nat} {xs : Nat → Int32} {Q : State → Prop} (C : LawAt p l s m meth c b L xs G) {i : Nat} (hi : i + 7 ≤ L) {ad ae : Nat → Nat} {ou : Nat} {sg : RRT} {r : MoT} {fo : Nat → Int64} (hR : Rel sg r) {H : Heap} {locs : List Loc} {cells slots : Nat} (hc : cells + 1 ≤ 1108) (hsl : slots + 6 ≤ 14071) (hP : va_P G.1 vwCl (([(ou, .inl (G.2.2.2, 1, .inr (.inl fo)))] ++ (wRR G ad 0 sg)) ++ wMo G ae 0 r) H) (hD : va_D (fun q : Nat => s.heap.size ≤ q) (([(ou, .inl (G.2.2.2, 1, .inr (.inl fo)))] ++ (wRR G ad 0 sg)) ++ wMo G ae 0 r)) (hS : va_S (fun q : Nat => s.heap.size ≤ q) s.heap H locs) {ls : Array Slot} (hl : lv_has ls 8 [(0, .ref b), (1, .ref (ad 0)), (2, .ref (ae 0)), (3, .ref ou), (4, .int (nI i))])
    (next : ∀ (sg : RRT) (r : MoT) (fo : Nat → Int64) (H : Heap) (locs : List Loc) (ls : Array Slot), Rel sg r → va_P G.1 vwCl (([(ou, .inl (G.2.2.2, 1, .inr (.inl fo)))] ++ (wRR G ad 0 sg)) ++ wMo G ae 0 r) H → va_D (fun q : Nat => s.heap.size ≤ q) (([(ou, .inl (G.2.2.2, 1, .inr (.inl fo)))] ++ (wRR G ad 0 sg)) ++ wMo G ae 0 r) → va_S (fun q : Nat => s.heap.size ≤ q) s.heap H locs → lv_has ls 8 [(0, .ref b), (1, .ref (ad 0)), (2, .ref (ae 0)), (3, .ref ou), (4, .int (nI i))] → W p l e room_1 s m #[Value.ref b] below meth c H locs (cells + 1) (slots + 6) Q (F0 m 1690 ls [])) :
    W p l e room_1 s m #[Value.ref b] below meth c H locs cells slots Q (F0 m 1219 ls []) := by
  obtain ⟨⟨hx, hb, hr, hml, hown, hts0, hX, hbl, hlocks, hgv⟩, hl0, hY, hZ, hL⟩ := C
  have hts : ∀ w ∈ wsL_law, w.before #[Value.ref b] s = true := fun w h => hts0 w (wsL_law_in w h)
  have hown : s.vm.findClass RL = some m.cls := hown
  have CF : CallFix p m c cL_law 8 s #[Value.ref b] wsL_law RL := ⟨hx, hb, hml, hown, hts⟩
  have hA : ∀ q : Nat, s.heap.size ≤ q → (fun q : Nat => s.heap.size ≤ q) q := fun _ h => h
  have hbA : ¬ (fun q : Nat => s.heap.size ≤ q) b := Nat.not_le.mpr hbl
  refine lv_aload_n hx hb dL_law_1219 rfl (lv_at hl 1 rfl) ?_
  refine lv_aload_n hx hb dL_law_1220 rfl (lv_at hl 0 rfl) ?_
  refine lv_iload hx hb dL_law_1221 (lv_at hl 4 rfl) ?_
  refine lv_iconst (v := 1) hx hb dL_law_1223 (by decide) ?_
  refine lv_iadd hx hb dL_law_1224 ?_
  refine va_sld hx hb hX hbl hbA hS (ix_1 hi hL) dL_law_1225 ?_
  refine lv_aload_n hx hb dL_law_1226 rfl (lv_at hl 3 rfl) ?_
  obtain ⟨kk, fo1, sg1, b1, r1, hC, hM, e1, e2, hR1⟩ := ag_distinctSize l hl0 G ad 0 ae 0 hR (xs (nI i + 1).toNatClampNeg) ou fo
  refine caS [] ([(ou, .inl (G.2.2.2, 1, .inr (.inl fo)))] ++ (wRR G ad 0 sg)) (wMo G ae 0 r) ([(ou, .inl (G.2.2.2, 1, .inr (.inl fo1)))] ++ (wRR G ad 0 sg1)) (As := [.ref (ad 0), .int (xs (nI i + 1).toNatClampNeg), .ref ou]) (rest := []) CF hC (vx_cwSW 3 hts gL_law_L_distinctSize rfl rfl rfl (by decide +kernel) ⟨Nat.le_of_ble_eq_true rfl, Nat.le_of_ble_eq_true rfl⟩) hP hD hS hA hY hZ (fst_LR _ _ _ _ _ _ _ _) rfl hl.1 rfl (lv_room (Nat.le_of_ble_eq_true rfl)) dL_law_1227 ⟨hc, hsl⟩ (fun H locs hP hD hS => ?_)
  have hP : va_P G.1 vwCl (([(ou, .inl (G.2.2.2, 1, .inr (.inl fo1)))] ++ (wRR G ad 0 sg1)) ++ wMo G ae 0 r) H := hP
  have hD : va_D (fun q : Nat => s.heap.size ≤ q) (([(ou, .inl (G.2.2.2, 1, .inr (.inl fo1)))] ++ (wRR G ad 0 sg1)) ++ wMo G ae 0 r) := hD
  refine lv_istore (lv' := [(5, .int kk), (0, .ref b), (1, .ref (ad 0)), (2, .ref (ae 0)), (3, .ref ou), (4, .int (nI i))]) hx hb dL_law_1230 hl (by decide) rfl (fun ls hl => ?_)
  refine lv_aload_n hx hb dL_law_1232 rfl (lv_at hl 3 rfl) ?_
  refine lv_aload_n hx hb dL_law_1233 rfl (lv_at hl 1 rfl) ?_
  refine lv_iload hx hb dL_law_1234 (lv_at hl 5 rfl) ?_
  refine lv_iconst (v := 1) hx hb dL_law_1236 (by decide) ?_
  refine lv_iadd hx hb dL_law_1237 ?_
  refine va_sld hx hb hX hbl hbA hS (ix_1 hi hL) dL_law_1238 ?_
  rw [← List.append_nil (wMo G ae 0 r)] at hP hD
  refine wrV ([(ou, .inl (G.2.2.2, 1, .inr (.inl fo1)))] ++ (wRR G ad 0 sg1)) (wMo G ae 0 r) [] (wMo G ae 0 r1) (As := [.int (xs (nI i + 1).toNatClampNeg)]) (rest := []) CF hM (cwV 1 hts gL_law_X7_distinctSize rfl rfl rfl (by decide +kernel) ⟨Nat.le_of_ble_eq_true rfl, Nat.le_of_ble_eq_true rfl⟩) hP hD hS hA hY rfl rfl (fst_Mo _ _ _ _ _) rfl hl.1 rfl (lv_room (Nat.le_of_ble_eq_true rfl)) dL_law_1239 ⟨(show cells + 1 ≤ 1108 from hc), (show slots + 6 ≤ 14071 from hsl)⟩ (fun H locs hP hD hS => ?_)
  rw [List.append_nil] at hP hD
  refine lv_istore (lv' := [(6, .int b1), (5, .int kk), (0, .ref b), (1, .ref (ad 0)), (2, .ref (ae 0)), (3, .ref ou), (4, .int (nI i))]) hx hb dL_law_1242 hl (by decide) rfl (fun ls hl => ?_)
  refine lv_aload_n hx hb dL_law_1244 rfl (lv_at hl 4 rfl) ?_
  refine rdV (w0 := (wMo G ae 0 r1)) (As := []) (rest := []) CF (k_X7_thrown l G ae 0 r1) (cwV 0 hts gL_law_X7_thrown rfl rfl rfl (by decide +kernel) ⟨Nat.le_of_ble_eq_true rfl, Nat.le_of_ble_eq_true rfl⟩) hP.apr hY rfl rfl rfl hl.1 rfl (lv_room (Nat.le_of_ble_eq_true rfl)) dL_law_1245 ⟨(show cells + 1 ≤ 1108 from hc), (show slots + 6 ≤ 14071 from hsl)⟩ ?_
  refine lv_iload hx hb dL_law_1248 (lv_at hl 1 rfl) ?_
  refine lv_icmp_eq (tgt := 1255) hx hb dL_law_1250 (by decide) (fun _ => ?_) (fun hh => absurd e1 hh)
  refine lv_iload hx hb dL_law_1255 (lv_at hl 1 rfl) ?_
  refine lv_if_ne (tgt := 1272) hx hb dL_law_1257 (by decide) (fun _ => ?_) (fun hk => ?_)
  · refine lv_goto (tgt := 1690) hx hb dL_law_1272 (by decide) ?_
    exact next sg1 r1 fo1 H locs ls hR1 hP hD hS (lv_sub hl [2, 3, 4, 5, 6] rfl)
  refine lv_aload_n hx hb dL_law_1260 rfl (lv_at hl 5 rfl) ?_
  refine lv_iconst (v := 0) hx hb dL_law_1261 (by decide) ?_
  refine va_lald hx hb hY.1 hP 0 2 rfl rfl vp_0_1 dL_law_1262 ?_
  refine lv_iload hx hb dL_law_1263 (lv_at hl 0 rfl) ?_
  refine lv_i2l hx hb dL_law_1265 rfl ?_
  refine W.lcmp hx hb dL_law_1266 ?_
  refine lv_if_eq (tgt := 1272) hx hb dL_law_1267 (by decide) (fun _ => ?_) (fun hh => absurd ((lg_cmp_eq _ _).mpr (e2 hk)) hh)
  refine lv_goto (tgt := 1690) hx hb dL_law_1272 (by decide) ?_
  exact next sg1 r1 fo1 H locs ls hR1 hP hD hS (lv_sub hl [2, 3, 4, 5, 6] rfl)

set_option maxHeartbeats 4000000 in
set_option maxRecDepth 100000 in
theorem lc_distinctItem {p : Program} {l : Launch} {e : Env} {s : State} {m : MethodId} {below : List Frame} {meth : Method} {c : Code} {G : GT} {b L : Nat} {xs : Nat → Int32} {Q : State → Prop} (C : LawAt p l s m meth c b L xs G) {i : Nat} (hi : i + 7 ≤ L) {ad ae : Nat → Nat} {ou : Nat} {sg : RRT} {r : MoT} {fo : Nat → Int64} (hR : Rel sg r) {H : Heap} {locs : List Loc} {cells slots : Nat} (hc : cells + 1 ≤ 1108) (hsl : slots + 6 ≤ 14071) (hP : va_P G.1 vwCl (([(ou, .inl (G.2.2.2, 1, .inr (.inl fo)))] ++ (wRR G ad 0 sg)) ++ wMo G ae 0 r) H) (hD : va_D (fun q : Nat => s.heap.size ≤ q) (([(ou, .inl (G.2.2.2, 1, .inr (.inl fo)))] ++ (wRR G ad 0 sg)) ++ wMo G ae 0 r)) (hS : va_S (fun q : Nat => s.heap.size ≤ q) s.heap H locs) {ls : Array Slot} (hl : lv_has ls 8 [(0, .ref b), (1, .ref (ad 0)), (2, .ref (ae 0)), (3, .ref ou), (4, .int (nI i))])
    (next : ∀ (sg : RRT) (r : MoT) (fo : Nat → Int64) (H : Heap) (locs : List Loc) (ls : Array Slot), Rel sg r → va_P G.1 vwCl (([(ou, .inl (G.2.2.2, 1, .inr (.inl fo)))] ++ (wRR G ad 0 sg)) ++ wMo G ae 0 r) H → va_D (fun q : Nat => s.heap.size ≤ q) (([(ou, .inl (G.2.2.2, 1, .inr (.inl fo)))] ++ (wRR G ad 0 sg)) ++ wMo G ae 0 r) → va_S (fun q : Nat => s.heap.size ≤ q) s.heap H locs → lv_has ls 8 [(0, .ref b), (1, .ref (ad 0)), (2, .ref (ae 0)), (3, .ref ou), (4, .int (nI i))] → W p l e room_1 s m #[Value.ref b] below meth c H locs (cells + 1) (slots + 6) Q (F0 m 1690 ls [])) :
    W p l e room_1 s m #[Value.ref b] below meth c H locs cells slots Q (F0 m 1275 ls []) := by
  obtain ⟨⟨hx, hb, hr, hml, hown, hts0, hX, hbl, hlocks, hgv⟩, hl0, hY, hZ, hL⟩ := C
  have hts : ∀ w ∈ wsL_law, w.before #[Value.ref b] s = true := fun w h => hts0 w (wsL_law_in w h)
  have hown : s.vm.findClass RL = some m.cls := hown
  have CF : CallFix p m c cL_law 8 s #[Value.ref b] wsL_law RL := ⟨hx, hb, hml, hown, hts⟩
  have hA : ∀ q : Nat, s.heap.size ≤ q → (fun q : Nat => s.heap.size ≤ q) q := fun _ h => h
  have hbA : ¬ (fun q : Nat => s.heap.size ≤ q) b := Nat.not_le.mpr hbl
  refine lv_aload_n hx hb dL_law_1275 rfl (lv_at hl 1 rfl) ?_
  refine lv_aload_n hx hb dL_law_1276 rfl (lv_at hl 0 rfl) ?_
  refine lv_iload hx hb dL_law_1277 (lv_at hl 4 rfl) ?_
  refine lv_iconst (v := 1) hx hb dL_law_1279 (by decide) ?_
  refine lv_iadd hx hb dL_law_1280 ?_
  refine va_sld hx hb hX hbl hbA hS (ix_1 hi hL) dL_law_1281 ?_
  refine lv_aload_n hx hb dL_law_1282 rfl (lv_at hl 0 rfl) ?_
  refine lv_iload hx hb dL_law_1283 (lv_at hl 4 rfl) ?_
  refine lv_iconst (v := 2) hx hb dL_law_1285 (by decide) ?_
  refine lv_iadd hx hb dL_law_1286 ?_
  refine va_sld hx hb hX hbl hbA hS (ix_2 hi hL) dL_law_1287 ?_
  refine lv_aload_n hx hb dL_law_1288 rfl (lv_at hl 3 rfl) ?_
  obtain ⟨kk, fo1, sg1, b1, r1, hC, hM, e1, e2, hR1⟩ := ag_distinctItem l hl0 G ad 0 ae 0 hR (xs (nI i + 1).toNatClampNeg) (xs (nI i + 2).toNatClampNeg) ou fo
  refine caS [] ([(ou, .inl (G.2.2.2, 1, .inr (.inl fo)))] ++ (wRR G ad 0 sg)) (wMo G ae 0 r) ([(ou, .inl (G.2.2.2, 1, .inr (.inl fo1)))] ++ (wRR G ad 0 sg1)) (As := [.ref (ad 0), .int (xs (nI i + 1).toNatClampNeg), .int (xs (nI i + 2).toNatClampNeg), .ref ou]) (rest := []) CF hC (vx_cwSW 4 hts gL_law_L_distinctItem rfl rfl rfl (by decide +kernel) ⟨Nat.le_of_ble_eq_true rfl, Nat.le_of_ble_eq_true rfl⟩) hP hD hS hA hY hZ (fst_LR _ _ _ _ _ _ _ _) rfl hl.1 rfl (lv_room (Nat.le_of_ble_eq_true rfl)) dL_law_1289 ⟨hc, hsl⟩ (fun H locs hP hD hS => ?_)
  have hP : va_P G.1 vwCl (([(ou, .inl (G.2.2.2, 1, .inr (.inl fo1)))] ++ (wRR G ad 0 sg1)) ++ wMo G ae 0 r) H := hP
  have hD : va_D (fun q : Nat => s.heap.size ≤ q) (([(ou, .inl (G.2.2.2, 1, .inr (.inl fo1)))] ++ (wRR G ad 0 sg1)) ++ wMo G ae 0 r) := hD
  refine lv_istore (lv' := [(5, .int kk), (0, .ref b), (1, .ref (ad 0)), (2, .ref (ae 0)), (3, .ref ou), (4, .int (nI i))]) hx hb dL_law_1292 hl (by decide) rfl (fun ls hl => ?_)
  refine lv_aload_n hx hb dL_law_1294 rfl (lv_at hl 3 rfl) ?_
  refine lv_aload_n hx hb dL_law_1295 rfl (lv_at hl 1 rfl) ?_
  refine lv_iload hx hb dL_law_1296 (lv_at hl 5 rfl) ?_
  refine lv_iconst (v := 1) hx hb dL_law_1298 (by decide) ?_
  refine lv_iadd hx hb dL_law_1299 ?_
  refine va_sld hx hb hX hbl hbA hS (ix_1 hi hL) dL_law_1300 ?_
  refine lv_aload_n hx hb dL_law_1301 rfl (lv_at hl 1 rfl) ?_
  refine lv_iload hx hb dL_law_1302 (lv_at hl 5 rfl) ?_
  refine lv_iconst (v := 2) hx hb dL_law_1304 (by decide) ?_
  refine lv_iadd hx hb dL_law_1305 ?_
  refine va_sld hx hb hX hbl hbA hS (ix_2 hi hL) dL_law_1306 ?_
  rw [← List.append_nil (wMo G ae 0 r)] at hP hD
  refine wrV ([(ou, .inl (G.2.2.2, 1, .inr (.inl fo1)))] ++ (wRR G ad 0 sg1)) (wMo G ae 0 r) [] (wMo G ae 0 r1) (As := [.int (xs (nI i + 1).toNatClampNeg), .int (xs (nI i + 2).toNatClampNeg)]) (rest := []) CF hM (cwV 2 hts gL_law_X7_distinctItem rfl rfl rfl (by decide +kernel) ⟨Nat.le_of_ble_eq_true rfl, Nat.le_of_ble_eq_true rfl⟩) hP hD hS hA hY rfl rfl (fst_Mo _ _ _ _ _) rfl hl.1 rfl (lv_room (Nat.le_of_ble_eq_true rfl)) dL_law_1307 ⟨(show cells + 1 ≤ 1108 from hc), (show slots + 6 ≤ 14071 from hsl)⟩ (fun H locs hP hD hS => ?_)
  rw [List.append_nil] at hP hD
  refine lv_istore (lv' := [(6, .int b1), (5, .int kk), (0, .ref b), (1, .ref (ad 0)), (2, .ref (ae 0)), (3, .ref ou), (4, .int (nI i))]) hx hb dL_law_1310 hl (by decide) rfl (fun ls hl => ?_)
  refine lv_aload_n hx hb dL_law_1312 rfl (lv_at hl 4 rfl) ?_
  refine rdV (w0 := (wMo G ae 0 r1)) (As := []) (rest := []) CF (k_X7_thrown l G ae 0 r1) (cwV 0 hts gL_law_X7_thrown rfl rfl rfl (by decide +kernel) ⟨Nat.le_of_ble_eq_true rfl, Nat.le_of_ble_eq_true rfl⟩) hP.apr hY rfl rfl rfl hl.1 rfl (lv_room (Nat.le_of_ble_eq_true rfl)) dL_law_1313 ⟨(show cells + 1 ≤ 1108 from hc), (show slots + 6 ≤ 14071 from hsl)⟩ ?_
  refine lv_iload hx hb dL_law_1316 (lv_at hl 1 rfl) ?_
  refine lv_icmp_eq (tgt := 1323) hx hb dL_law_1318 (by decide) (fun _ => ?_) (fun hh => absurd e1 hh)
  refine lv_iload hx hb dL_law_1323 (lv_at hl 1 rfl) ?_
  refine lv_if_ne (tgt := 1340) hx hb dL_law_1325 (by decide) (fun _ => ?_) (fun hk => ?_)
  · refine lv_goto (tgt := 1690) hx hb dL_law_1340 (by decide) ?_
    exact next sg1 r1 fo1 H locs ls hR1 hP hD hS (lv_sub hl [2, 3, 4, 5, 6] rfl)
  refine lv_aload_n hx hb dL_law_1328 rfl (lv_at hl 5 rfl) ?_
  refine lv_iconst (v := 0) hx hb dL_law_1329 (by decide) ?_
  refine va_lald hx hb hY.1 hP 0 2 rfl rfl vp_0_1 dL_law_1330 ?_
  refine lv_iload hx hb dL_law_1331 (lv_at hl 0 rfl) ?_
  refine lv_i2l hx hb dL_law_1333 rfl ?_
  refine W.lcmp hx hb dL_law_1334 ?_
  refine lv_if_eq (tgt := 1340) hx hb dL_law_1335 (by decide) (fun _ => ?_) (fun hh => absurd ((lg_cmp_eq _ _).mpr (e2 hk)) hh)
  refine lv_goto (tgt := 1690) hx hb dL_law_1340 (by decide) ?_
  exact next sg1 r1 fo1 H locs ls hR1 hP hD hS (lv_sub hl [2, 3, 4, 5, 6] rfl)
