set_option maxHeartbeats 4000000 in
set_option maxRecDepth 100000 in
theorem k_X6_windowItem (l : Launch) (G : GT) (ad : Nat → Nat) (o : Nat) (sg : RRT) (st : Int32) (h0 : okA st 0 1) (hs : ¬ (rrStr sg st).2.2.1 ≤ 0) : Rd l yX6_windowItem wsX6_windowItem { frames := 7, cells := 0, slots := 0, locals := 122 } G (wRR G ad o sg) [.ref (ad o), .int st] (.int (at_ 300 (rrCha sg st).2.2.2.2.1 (rrCha sg st).2.1)) := by
  obtain ⟨k, s0, s1, mp, md⟩ := sg
  refine Met.ofW (cc := cX6_windowItem) (maxL := 3) (ret := (some .int)) (by decide) rfl ?_
  intro p e s m args below meth c s₁ B hml hv
  obtain ⟨rfl, hP, hY⟩ := hv
  have hx := B.exec
  have hb := B.bytes
  have hr := B.returns
  have hts := atoms_spec (ws := wsX6_windowItem) B.pre
  have hown : s.vm.findClass RX6 = some m.cls := findClass_of_methodNamed B.named
  have hlk := B.notSynchronized
  have CF : CallFix p m c cX6_windowItem 3 s _ wsX6_windowItem RX6 := ⟨hx, hb, hml, hown, hts⟩
  have hiX5 : ∀ w ∈ wsX50, w ∈ wsX6_windowItem := fun w h => (List.mem_cons_of_mem _ (List.mem_append_left _ (List.mem_append_left _ (List.mem_append_left _ (List.mem_append_left _ (List.mem_append_right _ h))))))
  have hiX0 : ∀ w ∈ wsX00, w ∈ wsX6_windowItem := fun w h => (List.mem_cons_of_mem _ (List.mem_append_left _ (List.mem_append_left _ (List.mem_append_left _ (List.mem_append_right _ h)))))
  have hl := lv_entry ([.ref (ad o), .int st]) (n := 3) (Nat.le_of_ble_eq_true rfl)
  rw [lg_entry_eq]
  generalize (lg_sl ([.ref (ad o), .int st]) ++ List.replicate (3 - (lg_sl ([.ref (ad o), .int st])).length) Slot.unset).toArray = ls at hl ⊢
  have hl : lv_has ls 3 [(0, .ref (ad o)), (1, .int st)] := hl
  refine lv_iload_n hx hb dX6_windowItem_0 rfl (lv_at hl 1 rfl) ?_
  refine lv_iconst (v := 0) hx hb dX6_windowItem_1 (by decide) ?_
  refine lv_iconst (v := 1) hx hb dX6_windowItem_2 (by decide) ?_
  refine rvS (w0 := []) (As := [.int st, .int 0, .int 1]) (rest := []) CF (k_X6_checkArgument l G st 0 1 h0) (va_cwS 3 hts gX6_windowItem_X6_checkArgument rfl rfl rfl (by decide +kernel) ⟨Nat.le_of_ble_eq_true rfl, Nat.le_of_ble_eq_true rfl⟩) va_P_nil hY rfl hl.1 rfl (lv_room (Nat.le_of_ble_eq_true rfl)) dX6_windowItem_3 ⟨Nat.zero_le _, Nat.zero_le _⟩ ?_
  refine lv_aload_n hx hb dX6_windowItem_6 rfl (lv_at hl 0 rfl) ?_
  refine lv_iload_n hx hb dX6_windowItem_7 rfl (lv_at hl 1 rfl) ?_
  by_cases q8_1 : st = 0
  · refine rdV (w0 := (wRR G ad o (k, s0, s1, mp, md))) (As := [.int st]) (rest := []) CF (k0_X6_streamOf l G ad o (k, s0, s1, mp, md) st q8_1) (cwV 1 hts gX6_windowItem_X6_streamOf rfl rfl rfl (by decide +kernel) ⟨Nat.le_of_ble_eq_true rfl, Nat.le_of_ble_eq_true rfl⟩) hP hY rfl rfl rfl hl.1 rfl (lv_room (Nat.le_of_ble_eq_true rfl)) dX6_windowItem_8 ⟨Nat.zero_le _, Nat.zero_le _⟩ ?_
    refine lv_astore_n (lv' := [(2, .ref (ad (o+1))), (0, .ref (ad o)), (1, .int st)]) hx hb dX6_windowItem_11 rfl hl (by decide) rfl (fun ls hl => ?_)
    refine lv_aload_n hx hb dX6_windowItem_12 rfl (lv_at hl 0 rfl) ?_
    have hQ2 := va_P.subm (u := wStr G ad (o+1) s0) (fun q h => by simp only [wRR, List.mem_cons, List.mem_append, h, true_or, or_true]) hP
    refine va_getN (D := G.1) (ci := 5) (v := .int s0.2.2.1) (C := RX5) (T := TX5) (N := 11) hx hb hts hiX5 hown hY.1 hQ2 0 rfl rfl 10 (by decide) (va_Nw.use rfl (hY.2.1 (.fieldLinkNest RX6 47 RX5 "taken" "I" RX6) (List.mem_of_getElem? (i := 11) rfl))) (fun _ h9 => h9) rfl dX6_windowItem_13 ?_
    refine lv_if_le (tgt := 23) hx hb dX6_windowItem_16 (by decide) (fun h16_3 => ?_) (fun h16_3 => ?_)
    · exact absurd h16_3 (by simpa only [rrStr, eq_true q8_1, ↓reduceIte] using hs)
    · refine lv_iconst (v := 1) hx hb dX6_windowItem_19 (by decide) ?_
      refine lv_goto (tgt := 24) hx hb dX6_windowItem_20 (by decide) ?_
      refine rvS (w0 := []) (As := [.int 1]) (rest := []) CF (k_X6_checkState l G 1 (by decide)) (va_cwS 1 hts gX6_windowItem_X6_checkState rfl rfl rfl (by decide +kernel) ⟨Nat.le_of_ble_eq_true rfl, Nat.le_of_ble_eq_true rfl⟩) va_P_nil hY rfl hl.1 rfl (lv_room (Nat.le_of_ble_eq_true rfl)) dX6_windowItem_24 ⟨Nat.zero_le _, Nat.zero_le _⟩ ?_
      refine lv_aload_n hx hb dX6_windowItem_27 rfl (lv_at hl 0 rfl) ?_
      have hQ4 := va_P.subm (u := wStr G ad (o+1) s0) (fun q h => by simp only [wRR, List.mem_cons, List.mem_append, h, true_or, or_true]) hP
      refine va_getN (D := G.1) (ci := 5) (v := .ref (ad (o+1+28))) (C := RX5) (T := TX5) (N := 11) hx hb hts hiX5 hown hY.1 hQ4 0 rfl rfl 7 (by decide) (va_Nw.use rfl (hY.2.1 (.fieldLinkNest RX6 136 RX5 "chain" "LReservoirReed$Chain;" RX6) (List.mem_of_getElem? (i := 4) rfl))) (fun _ h9 => h9) rfl dX6_windowItem_28 ?_
      have hQ5 := va_P.subm (u := wCha G ad (o+1+28) s0.2.2.2.2.2.2.2.2.2.2) (fun q h => by simp only [wStr, wRR, List.mem_cons, List.mem_append, h, true_or, or_true]) hP
      refine va_getN (D := G.1) (ci := 0) (v := .ref (ad (o+1+28+1))) (C := RX0) (T := TX0) (N := 6) hx hb hts hiX0 hown hY.1 hQ5 0 rfl rfl 0 (by decide) (va_Nw.use rfl (hY.2.1 (.fieldLinkNest RX6 140 RX0 "items" "[I" RX6) (List.mem_of_getElem? (i := 5) rfl))) (fun _ h9 => h9) rfl dX6_windowItem_31 ?_
      refine lv_aload_n hx hb dX6_windowItem_34 rfl (lv_at hl 0 rfl) ?_
      have hQ6 := va_P.subm (u := wStr G ad (o+1) s0) (fun q h => by simp only [wRR, List.mem_cons, List.mem_append, h, true_or, or_true]) hP
      refine va_getN (D := G.1) (ci := 5) (v := .ref (ad (o+1+28))) (C := RX5) (T := TX5) (N := 11) hx hb hts hiX5 hown hY.1 hQ6 0 rfl rfl 7 (by decide) (va_Nw.use rfl (hY.2.1 (.fieldLinkNest RX6 136 RX5 "chain" "LReservoirReed$Chain;" RX6) (List.mem_of_getElem? (i := 4) rfl))) (fun _ h9 => h9) rfl dX6_windowItem_35 ?_
      have hQ7 := va_P.subm (u := wCha G ad (o+1+28) s0.2.2.2.2.2.2.2.2.2.2) (fun q h => by simp only [wStr, wRR, List.mem_cons, List.mem_append, h, true_or, or_true]) hP
      refine va_getN (D := G.1) (ci := 0) (v := .int s0.2.2.2.2.2.2.2.2.2.2.2.1) (C := RX0) (T := TX0) (N := 6) hx hb hts hiX0 hown hY.1 hQ7 0 rfl rfl 3 (by decide) (va_Nw.use rfl (hY.2.1 (.fieldLinkNest RX6 143 RX0 "start" "I" RX6) (List.mem_of_getElem? (i := 6) rfl))) (fun _ h9 => h9) rfl dX6_windowItem_38 ?_
      have hQ8 := va_P.subm (u := wCha G ad (o+1+28) s0.2.2.2.2.2.2.2.2.2.2) (fun q h => by simp only [wStr, wRR, List.mem_cons, List.mem_append, h, true_or, or_true]) hP
      refine rdS (w0 := [(ad (o+1+28+1), .inl (G.2.1, 300, .inl s0.2.2.2.2.2.2.2.2.2.2.2.2.2.2.1))]) (As := [.ref (ad (o+1+28+1)), .int s0.2.2.2.2.2.2.2.2.2.2.2.1]) (rest := []) CF (k_X6_at l G 300 (ad (o+1+28+1)) s0.2.2.2.2.2.2.2.2.2.2.2.2.2.2.1 s0.2.2.2.2.2.2.2.2.2.2.2.1 (by decide)) (va_cwS 2 hts gX6_windowItem_X6_at rfl rfl rfl (by decide +kernel) ⟨Nat.le_of_ble_eq_true rfl, Nat.le_of_ble_eq_true rfl⟩) (hQ8.sub (ws' := [(ad (o+1+28+1), .inl (G.2.1, 300, .inl s0.2.2.2.2.2.2.2.2.2.2.2.2.2.2.1))]) [1] rfl) hY rfl hl.1 rfl (lv_room (Nat.le_of_ble_eq_true rfl)) dX6_windowItem_41 ⟨Nat.zero_le _, Nat.zero_le _⟩ ?_
      exact rd_iret hx hb hr hlk (by first | with_reducible rfl | (simp only [rrCha, rrStr, sld_eq, eq_true q8_1, h16_3, ↓reduceIte]; done)) dX6_windowItem_44
  · refine rdV (w0 := (wRR G ad o (k, s0, s1, mp, md))) (As := [.int st]) (rest := []) CF (k1_X6_streamOf l G ad o (k, s0, s1, mp, md) st q8_1) (cwV 1 hts gX6_windowItem_X6_streamOf rfl rfl rfl (by decide +kernel) ⟨Nat.le_of_ble_eq_true rfl, Nat.le_of_ble_eq_true rfl⟩) hP hY rfl rfl rfl hl.1 rfl (lv_room (Nat.le_of_ble_eq_true rfl)) dX6_windowItem_8 ⟨Nat.zero_le _, Nat.zero_le _⟩ ?_
    refine lv_astore_n (lv' := [(2, .ref (ad (o+32))), (0, .ref (ad o)), (1, .int st)]) hx hb dX6_windowItem_11 rfl hl (by decide) rfl (fun ls hl => ?_)
    refine lv_aload_n hx hb dX6_windowItem_12 rfl (lv_at hl 0 rfl) ?_
    have hQ9 := va_P.subm (u := wStr G ad (o+32) s1) (fun q h => by simp only [wRR, List.mem_cons, List.mem_append, h, true_or, or_true]) hP
    refine va_getN (D := G.1) (ci := 5) (v := .int s1.2.2.1) (C := RX5) (T := TX5) (N := 11) hx hb hts hiX5 hown hY.1 hQ9 0 rfl rfl 10 (by decide) (va_Nw.use rfl (hY.2.1 (.fieldLinkNest RX6 47 RX5 "taken" "I" RX6) (List.mem_of_getElem? (i := 11) rfl))) (fun _ h9 => h9) rfl dX6_windowItem_13 ?_
    refine lv_if_le (tgt := 23) hx hb dX6_windowItem_16 (by decide) (fun h16_10 => ?_) (fun h16_10 => ?_)
    · exact absurd h16_10 (by simpa only [rrStr, q8_1, ↓reduceIte] using hs)
    · refine lv_iconst (v := 1) hx hb dX6_windowItem_19 (by decide) ?_
      refine lv_goto (tgt := 24) hx hb dX6_windowItem_20 (by decide) ?_
      refine rvS (w0 := []) (As := [.int 1]) (rest := []) CF (k_X6_checkState l G 1 (by decide)) (va_cwS 1 hts gX6_windowItem_X6_checkState rfl rfl rfl (by decide +kernel) ⟨Nat.le_of_ble_eq_true rfl, Nat.le_of_ble_eq_true rfl⟩) va_P_nil hY rfl hl.1 rfl (lv_room (Nat.le_of_ble_eq_true rfl)) dX6_windowItem_24 ⟨Nat.zero_le _, Nat.zero_le _⟩ ?_
      refine lv_aload_n hx hb dX6_windowItem_27 rfl (lv_at hl 0 rfl) ?_
      have hQ11 := va_P.subm (u := wStr G ad (o+32) s1) (fun q h => by simp only [wRR, List.mem_cons, List.mem_append, h, true_or, or_true]) hP
      refine va_getN (D := G.1) (ci := 5) (v := .ref (ad (o+32+28))) (C := RX5) (T := TX5) (N := 11) hx hb hts hiX5 hown hY.1 hQ11 0 rfl rfl 7 (by decide) (va_Nw.use rfl (hY.2.1 (.fieldLinkNest RX6 136 RX5 "chain" "LReservoirReed$Chain;" RX6) (List.mem_of_getElem? (i := 4) rfl))) (fun _ h9 => h9) rfl dX6_windowItem_28 ?_
      have hQ12 := va_P.subm (u := wCha G ad (o+32+28) s1.2.2.2.2.2.2.2.2.2.2) (fun q h => by simp only [wStr, wRR, List.mem_cons, List.mem_append, h, true_or, or_true]) hP
      refine va_getN (D := G.1) (ci := 0) (v := .ref (ad (o+32+28+1))) (C := RX0) (T := TX0) (N := 6) hx hb hts hiX0 hown hY.1 hQ12 0 rfl rfl 0 (by decide) (va_Nw.use rfl (hY.2.1 (.fieldLinkNest RX6 140 RX0 "items" "[I" RX6) (List.mem_of_getElem? (i := 5) rfl))) (fun _ h9 => h9) rfl dX6_windowItem_31 ?_
      refine lv_aload_n hx hb dX6_windowItem_34 rfl (lv_at hl 0 rfl) ?_
      have hQ13 := va_P.subm (u := wStr G ad (o+32) s1) (fun q h => by simp only [wRR, List.mem_cons, List.mem_append, h, true_or, or_true]) hP
      refine va_getN (D := G.1) (ci := 5) (v := .ref (ad (o+32+28))) (C := RX5) (T := TX5) (N := 11) hx hb hts hiX5 hown hY.1 hQ13 0 rfl rfl 7 (by decide) (va_Nw.use rfl (hY.2.1 (.fieldLinkNest RX6 136 RX5 "chain" "LReservoirReed$Chain;" RX6) (List.mem_of_getElem? (i := 4) rfl))) (fun _ h9 => h9) rfl dX6_windowItem_35 ?_
      have hQ14 := va_P.subm (u := wCha G ad (o+32+28) s1.2.2.2.2.2.2.2.2.2.2) (fun q h => by simp only [wStr, wRR, List.mem_cons, List.mem_append, h, true_or, or_true]) hP
      refine va_getN (D := G.1) (ci := 0) (v := .int s1.2.2.2.2.2.2.2.2.2.2.2.1) (C := RX0) (T := TX0) (N := 6) hx hb hts hiX0 hown hY.1 hQ14 0 rfl rfl 3 (by decide) (va_Nw.use rfl (hY.2.1 (.fieldLinkNest RX6 143 RX0 "start" "I" RX6) (List.mem_of_getElem? (i := 6) rfl))) (fun _ h9 => h9) rfl dX6_windowItem_38 ?_
      have hQ15 := va_P.subm (u := wCha G ad (o+32+28) s1.2.2.2.2.2.2.2.2.2.2) (fun q h => by simp only [wStr, wRR, List.mem_cons, List.mem_append, h, true_or, or_true]) hP
      refine rdS (w0 := [(ad (o+32+28+1), .inl (G.2.1, 300, .inl s1.2.2.2.2.2.2.2.2.2.2.2.2.2.2.1))]) (As := [.ref (ad (o+32+28+1)), .int s1.2.2.2.2.2.2.2.2.2.2.2.1]) (rest := []) CF (k_X6_at l G 300 (ad (o+32+28+1)) s1.2.2.2.2.2.2.2.2.2.2.2.2.2.2.1 s1.2.2.2.2.2.2.2.2.2.2.2.1 (by decide)) (va_cwS 2 hts gX6_windowItem_X6_at rfl rfl rfl (by decide +kernel) ⟨Nat.le_of_ble_eq_true rfl, Nat.le_of_ble_eq_true rfl⟩) (hQ15.sub (ws' := [(ad (o+32+28+1), .inl (G.2.1, 300, .inl s1.2.2.2.2.2.2.2.2.2.2.2.2.2.2.1))]) [1] rfl) hY rfl hl.1 rfl (lv_room (Nat.le_of_ble_eq_true rfl)) dX6_windowItem_41 ⟨Nat.zero_le _, Nat.zero_le _⟩ ?_
      exact rd_iret hx hb hr hlk (by first | with_reducible rfl | (simp only [rrCha, rrStr, sld_eq, q8_1, h16_10, ↓reduceIte]; done)) dX6_windowItem_44

set_option maxHeartbeats 4000000 in
set_option maxRecDepth 100000 in
theorem kn_X6_windowItem (l : Launch) (hl0 : l.stackTraces = false) (G : GT) (ad : Nat → Nat) (o : Nat) (sg : RRT) (st : Int32) (hk : ¬ (okA st 0 1)) : No l yX6_windowItem wsX6_windowItem { frames := 7, cells := 1, slots := 6, locals := 122 } G (wRR G ad o sg) (wRR G ad o sg) [.ref (ad o), .int st] "java/lang/IllegalArgumentException" := by
  intro sz
  obtain ⟨k, s0, s1, mp, md⟩ := sg
  refine vx_ofW (cc := cX6_windowItem) (maxL := 3) (ret := (some .int)) (by decide) rfl ?_
  intro p e s m args below meth c s₁ B hml ht hv
  obtain ⟨rfl, hsz, hP, hY, hD0, hZ0⟩ := hv
  subst hsz
  have hD := hD0.self (sz := s.heap.size)
  generalize hAe : va_A (wRR G ad o (k, s0, s1, mp, md)) s.heap.size = A at hD hZ0 ⊢
  have hZ : Zs A s s.heap := hZ0
  have hA : ∀ q : Nat, s.heap.size ≤ q → A q := fun q h => by rw [← hAe]; exact Or.inr h
  have hS : va_S A s.heap s.heap [] := va_S.rf
  have hx := B.exec
  have hb := B.bytes
  have hr := B.returns
  have hts := atoms_spec (ws := wsX6_windowItem) B.pre
  have hown : s.vm.findClass RX6 = some m.cls := findClass_of_methodNamed B.named
  have hlk := B.notSynchronized
  have CF : CallFix p m c cX6_windowItem 3 s _ wsX6_windowItem RX6 := ⟨hx, hb, hml, hown, hts⟩
  have hl := lv_entry ([.ref (ad o), .int st]) (n := 3) (Nat.le_of_ble_eq_true rfl)
  rw [lg_entry_eq]
  generalize (lg_sl ([.ref (ad o), .int st]) ++ List.replicate (3 - (lg_sl ([.ref (ad o), .int st])).length) Slot.unset).toArray = ls at hl ⊢
  have hl : lv_has ls 3 [(0, .ref (ad o)), (1, .int st)] := hl
  refine lv_iload_n hx hb dX6_windowItem_0 rfl (lv_at hl 1 rfl) ?_
  refine lv_iconst (v := 0) hx hb dX6_windowItem_1 (by decide) ?_
  refine lv_iconst (v := 1) hx hb dX6_windowItem_2 (by decide) ?_
  by_cases q3_1 : okA st 0 1
  · refine rvS (w0 := []) (As := [.int st, .int 0, .int 1]) (rest := []) CF (k_X6_checkArgument l G st 0 1 q3_1) (va_cwS 3 hts gX6_windowItem_X6_checkArgument rfl rfl rfl (by decide +kernel) ⟨Nat.le_of_ble_eq_true rfl, Nat.le_of_ble_eq_true rfl⟩) va_P_nil hY rfl hl.1 rfl (lv_room (Nat.le_of_ble_eq_true rfl)) dX6_windowItem_3 ⟨Nat.zero_le _, Nat.zero_le _⟩ ?_
    exact absurd q3_1 hk
  · refine noS0 (As := [.int st, .int 0, .int 1]) (rest := []) CF (kn_X6_checkArgument l hl0 G st 0 1 q3_1) (va_cwS 3 hts gX6_windowItem_X6_checkArgument rfl rfl rfl (by decide +kernel) ⟨Nat.le_of_ble_eq_true rfl, Nat.le_of_ble_eq_true rfl⟩) hP hD hS hA hY hZ rfl hl.1 rfl (lv_room (Nat.le_of_ble_eq_true rfl)) dX6_windowItem_3 ⟨Nat.le_of_ble_eq_true rfl, Nat.le_of_ble_eq_true rfl⟩ (fun ce q9 H locs hP hD hS hce hcv hcl hgr => ?_)
    exact no_out ht hlk hce hcv hcl hgr hS hP (by first | with_reducible rfl | (simp only [rrCha, rrStr, sld_eq, q3_1, ↓reduceIte]; done))

set_option maxHeartbeats 4000000 in
set_option maxRecDepth 100000 in
theorem kn2_X6_windowItem (l : Launch) (hl0 : l.stackTraces = false) (G : GT) (ad : Nat → Nat) (o : Nat) (sg : RRT) (st : Int32) (h0 : okA st 0 1) (hs : (rrStr sg st).2.2.1 ≤ 0) : No l yX6_windowItem wsX6_windowItem { frames := 7, cells := 1, slots := 6, locals := 122 } G (wRR G ad o sg) (wRR G ad o sg) [.ref (ad o), .int st] "java/lang/IllegalStateException" := by
  intro sz
  obtain ⟨k, s0, s1, mp, md⟩ := sg
  refine vx_ofW (cc := cX6_windowItem) (maxL := 3) (ret := (some .int)) (by decide) rfl ?_
  intro p e s m args below meth c s₁ B hml ht hv
  obtain ⟨rfl, hsz, hP, hY, hD0, hZ0⟩ := hv
  subst hsz
  have hD := hD0.self (sz := s.heap.size)
  generalize hAe : va_A (wRR G ad o (k, s0, s1, mp, md)) s.heap.size = A at hD hZ0 ⊢
  have hZ : Zs A s s.heap := hZ0
  have hA : ∀ q : Nat, s.heap.size ≤ q → A q := fun q h => by rw [← hAe]; exact Or.inr h
  have hS : va_S A s.heap s.heap [] := va_S.rf
  have hx := B.exec
  have hb := B.bytes
  have hr := B.returns
  have hts := atoms_spec (ws := wsX6_windowItem) B.pre
  have hown : s.vm.findClass RX6 = some m.cls := findClass_of_methodNamed B.named
  have hlk := B.notSynchronized
  have CF : CallFix p m c cX6_windowItem 3 s _ wsX6_windowItem RX6 := ⟨hx, hb, hml, hown, hts⟩
  have hiX5 : ∀ w ∈ wsX50, w ∈ wsX6_windowItem := fun w h => (List.mem_cons_of_mem _ (List.mem_append_left _ (List.mem_append_left _ (List.mem_append_left _ (List.mem_append_left _ (List.mem_append_right _ h))))))
  have hl := lv_entry ([.ref (ad o), .int st]) (n := 3) (Nat.le_of_ble_eq_true rfl)
  rw [lg_entry_eq]
  generalize (lg_sl ([.ref (ad o), .int st]) ++ List.replicate (3 - (lg_sl ([.ref (ad o), .int st])).length) Slot.unset).toArray = ls at hl ⊢
  have hl : lv_has ls 3 [(0, .ref (ad o)), (1, .int st)] := hl
  refine lv_iload_n hx hb dX6_windowItem_0 rfl (lv_at hl 1 rfl) ?_
  refine lv_iconst (v := 0) hx hb dX6_windowItem_1 (by decide) ?_
  refine lv_iconst (v := 1) hx hb dX6_windowItem_2 (by decide) ?_
  refine rvS (w0 := []) (As := [.int st, .int 0, .int 1]) (rest := []) CF (k_X6_checkArgument l G st 0 1 h0) (va_cwS 3 hts gX6_windowItem_X6_checkArgument rfl rfl rfl (by decide +kernel) ⟨Nat.le_of_ble_eq_true rfl, Nat.le_of_ble_eq_true rfl⟩) va_P_nil hY rfl hl.1 rfl (lv_room (Nat.le_of_ble_eq_true rfl)) dX6_windowItem_3 ⟨Nat.zero_le _, Nat.zero_le _⟩ ?_
  refine lv_aload_n hx hb dX6_windowItem_6 rfl (lv_at hl 0 rfl) ?_
  refine lv_iload_n hx hb dX6_windowItem_7 rfl (lv_at hl 1 rfl) ?_
  by_cases q8_1 : st = 0
  · refine rdV (w0 := (wRR G ad o (k, s0, s1, mp, md))) (As := [.int st]) (rest := []) CF (k0_X6_streamOf l G ad o (k, s0, s1, mp, md) st q8_1) (cwV 1 hts gX6_windowItem_X6_streamOf rfl rfl rfl (by decide +kernel) ⟨Nat.le_of_ble_eq_true rfl, Nat.le_of_ble_eq_true rfl⟩) hP hY rfl rfl rfl hl.1 rfl (lv_room (Nat.le_of_ble_eq_true rfl)) dX6_windowItem_8 ⟨Nat.zero_le _, Nat.zero_le _⟩ ?_
    refine lv_astore_n (lv' := [(2, .ref (ad (o+1))), (0, .ref (ad o)), (1, .int st)]) hx hb dX6_windowItem_11 rfl hl (by decide) rfl (fun ls hl => ?_)
    refine lv_aload_n hx hb dX6_windowItem_12 rfl (lv_at hl 0 rfl) ?_
    have hQ2 := va_P.subm (u := wStr G ad (o+1) s0) (fun q h => by simp only [wRR, List.mem_cons, List.mem_append, h, true_or, or_true]) hP
    refine va_getN (D := G.1) (ci := 5) (v := .int s0.2.2.1) (C := RX5) (T := TX5) (N := 11) hx hb hts hiX5 hown hY.1 hQ2 0 rfl rfl 10 (by decide) (va_Nw.use rfl (hY.2.1 (.fieldLinkNest RX6 47 RX5 "taken" "I" RX6) (List.mem_of_getElem? (i := 11) rfl))) (fun _ h9 => h9) rfl dX6_windowItem_13 ?_
    refine lv_if_le (tgt := 23) hx hb dX6_windowItem_16 (by decide) (fun h16_3 => ?_) (fun h16_3 => ?_)
    · refine lv_iconst (v := 0) hx hb dX6_windowItem_23 (by decide) ?_
      refine noS0 (As := [.int 0]) (rest := []) CF (kn_X6_checkState l hl0 G 0 (fun h => h rfl)) (va_cwS 1 hts gX6_windowItem_X6_checkState rfl rfl rfl (by decide +kernel) ⟨Nat.le_of_ble_eq_true rfl, Nat.le_of_ble_eq_true rfl⟩) hP hD hS hA hY hZ rfl hl.1 rfl (lv_room (Nat.le_of_ble_eq_true rfl)) dX6_windowItem_24 ⟨Nat.le_of_ble_eq_true rfl, Nat.le_of_ble_eq_true rfl⟩ (fun ce q9 H locs hP hD hS hce hcv hcl hgr => ?_)
      exact no_out ht hlk hce hcv hcl hgr hS hP (by first | with_reducible rfl | (simp only [rrCha, rrStr, sld_eq, eq_true q8_1, h16_3, ↓reduceIte]; done))
    · exact absurd (by simpa only [rrStr, eq_true q8_1, ↓reduceIte] using hs) h16_3
  · refine rdV (w0 := (wRR G ad o (k, s0, s1, mp, md))) (As := [.int st]) (rest := []) CF (k1_X6_streamOf l G ad o (k, s0, s1, mp, md) st q8_1) (cwV 1 hts gX6_windowItem_X6_streamOf rfl rfl rfl (by decide +kernel) ⟨Nat.le_of_ble_eq_true rfl, Nat.le_of_ble_eq_true rfl⟩) hP hY rfl rfl rfl hl.1 rfl (lv_room (Nat.le_of_ble_eq_true rfl)) dX6_windowItem_8 ⟨Nat.zero_le _, Nat.zero_le _⟩ ?_
    refine lv_astore_n (lv' := [(2, .ref (ad (o+32))), (0, .ref (ad o)), (1, .int st)]) hx hb dX6_windowItem_11 rfl hl (by decide) rfl (fun ls hl => ?_)
    refine lv_aload_n hx hb dX6_windowItem_12 rfl (lv_at hl 0 rfl) ?_
    have hQ4 := va_P.subm (u := wStr G ad (o+32) s1) (fun q h => by simp only [wRR, List.mem_cons, List.mem_append, h, true_or, or_true]) hP
    refine va_getN (D := G.1) (ci := 5) (v := .int s1.2.2.1) (C := RX5) (T := TX5) (N := 11) hx hb hts hiX5 hown hY.1 hQ4 0 rfl rfl 10 (by decide) (va_Nw.use rfl (hY.2.1 (.fieldLinkNest RX6 47 RX5 "taken" "I" RX6) (List.mem_of_getElem? (i := 11) rfl))) (fun _ h9 => h9) rfl dX6_windowItem_13 ?_
    refine lv_if_le (tgt := 23) hx hb dX6_windowItem_16 (by decide) (fun h16_5 => ?_) (fun h16_5 => ?_)
    · refine lv_iconst (v := 0) hx hb dX6_windowItem_23 (by decide) ?_
      refine noS0 (As := [.int 0]) (rest := []) CF (kn_X6_checkState l hl0 G 0 (fun h => h rfl)) (va_cwS 1 hts gX6_windowItem_X6_checkState rfl rfl rfl (by decide +kernel) ⟨Nat.le_of_ble_eq_true rfl, Nat.le_of_ble_eq_true rfl⟩) hP hD hS hA hY hZ rfl hl.1 rfl (lv_room (Nat.le_of_ble_eq_true rfl)) dX6_windowItem_24 ⟨Nat.le_of_ble_eq_true rfl, Nat.le_of_ble_eq_true rfl⟩ (fun ce q9 H locs hP hD hS hce hcv hcl hgr => ?_)
      exact no_out ht hlk hce hcv hcl hgr hS hP (by first | with_reducible rfl | (simp only [rrCha, rrStr, sld_eq, q8_1, h16_5, ↓reduceIte]; done))
    · exact absurd (by simpa only [rrStr, q8_1, ↓reduceIte] using hs) h16_5

set_option maxHeartbeats 4000000 in
set_option maxRecDepth 100000 in
theorem k_X6_windowPosition (l : Launch) (G : GT) (ad : Nat → Nat) (o : Nat) (sg : RRT) (st : Int32) (h0 : okA st 0 1) (hs : ¬ (rrStr sg st).2.2.1 ≤ 0) : Rd l yX6_windowPosition wsX6_windowPosition { frames := 7, cells := 0, slots := 0, locals := 122 } G (wRR G ad o sg) [.ref (ad o), .int st] (.int (at_ 300 (rrCha sg st).2.2.2.2.2 (rrCha sg st).2.1)) := by
  obtain ⟨k, s0, s1, mp, md⟩ := sg
  refine Met.ofW (cc := cX6_windowPosition) (maxL := 3) (ret := (some .int)) (by decide) rfl ?_
  intro p e s m args below meth c s₁ B hml hv
  obtain ⟨rfl, hP, hY⟩ := hv
  have hx := B.exec
  have hb := B.bytes
  have hr := B.returns
  have hts := atoms_spec (ws := wsX6_windowPosition) B.pre
  have hown : s.vm.findClass RX6 = some m.cls := findClass_of_methodNamed B.named
  have hlk := B.notSynchronized
  have CF : CallFix p m c cX6_windowPosition 3 s _ wsX6_windowPosition RX6 := ⟨hx, hb, hml, hown, hts⟩
  have hiX5 : ∀ w ∈ wsX50, w ∈ wsX6_windowPosition := fun w h => (List.mem_cons_of_mem _ (List.mem_append_left _ (List.mem_append_left _ (List.mem_append_left _ (List.mem_append_left _ (List.mem_append_right _ h))))))
  have hiX0 : ∀ w ∈ wsX00, w ∈ wsX6_windowPosition := fun w h => (List.mem_cons_of_mem _ (List.mem_append_left _ (List.mem_append_left _ (List.mem_append_left _ (List.mem_append_right _ h)))))
  have hl := lv_entry ([.ref (ad o), .int st]) (n := 3) (Nat.le_of_ble_eq_true rfl)
  rw [lg_entry_eq]
  generalize (lg_sl ([.ref (ad o), .int st]) ++ List.replicate (3 - (lg_sl ([.ref (ad o), .int st])).length) Slot.unset).toArray = ls at hl ⊢
  have hl : lv_has ls 3 [(0, .ref (ad o)), (1, .int st)] := hl
  refine lv_iload_n hx hb dX6_windowPosition_0 rfl (lv_at hl 1 rfl) ?_
  refine lv_iconst (v := 0) hx hb dX6_windowPosition_1 (by decide) ?_
  refine lv_iconst (v := 1) hx hb dX6_windowPosition_2 (by decide) ?_
  refine rvS (w0 := []) (As := [.int st, .int 0, .int 1]) (rest := []) CF (k_X6_checkArgument l G st 0 1 h0) (va_cwS 3 hts gX6_windowPosition_X6_checkArgument rfl rfl rfl (by decide +kernel) ⟨Nat.le_of_ble_eq_true rfl, Nat.le_of_ble_eq_true rfl⟩) va_P_nil hY rfl hl.1 rfl (lv_room (Nat.le_of_ble_eq_true rfl)) dX6_windowPosition_3 ⟨Nat.zero_le _, Nat.zero_le _⟩ ?_
  refine lv_aload_n hx hb dX6_windowPosition_6 rfl (lv_at hl 0 rfl) ?_
  refine lv_iload_n hx hb dX6_windowPosition_7 rfl (lv_at hl 1 rfl) ?_
  by_cases q8_1 : st = 0
  · refine rdV (w0 := (wRR G ad o (k, s0, s1, mp, md))) (As := [.int st]) (rest := []) CF (k0_X6_streamOf l G ad o (k, s0, s1, mp, md) st q8_1) (cwV 1 hts gX6_windowPosition_X6_streamOf rfl rfl rfl (by decide +kernel) ⟨Nat.le_of_ble_eq_true rfl, Nat.le_of_ble_eq_true rfl⟩) hP hY rfl rfl rfl hl.1 rfl (lv_room (Nat.le_of_ble_eq_true rfl)) dX6_windowPosition_8 ⟨Nat.zero_le _, Nat.zero_le _⟩ ?_
    refine lv_astore_n (lv' := [(2, .ref (ad (o+1))), (0, .ref (ad o)), (1, .int st)]) hx hb dX6_windowPosition_11 rfl hl (by decide) rfl (fun ls hl => ?_)
    refine lv_aload_n hx hb dX6_windowPosition_12 rfl (lv_at hl 0 rfl) ?_
    have hQ2 := va_P.subm (u := wStr G ad (o+1) s0) (fun q h => by simp only [wRR, List.mem_cons, List.mem_append, h, true_or, or_true]) hP
    refine va_getN (D := G.1) (ci := 5) (v := .int s0.2.2.1) (C := RX5) (T := TX5) (N := 11) hx hb hts hiX5 hown hY.1 hQ2 0 rfl rfl 10 (by decide) (va_Nw.use rfl (hY.2.1 (.fieldLinkNest RX6 47 RX5 "taken" "I" RX6) (List.mem_of_getElem? (i := 11) rfl))) (fun _ h9 => h9) rfl dX6_windowPosition_13 ?_
    refine lv_if_le (tgt := 23) hx hb dX6_windowPosition_16 (by decide) (fun h16_3 => ?_) (fun h16_3 => ?_)
    · exact absurd h16_3 (by simpa only [rrStr, eq_true q8_1, ↓reduceIte] using hs)
    · refine lv_iconst (v := 1) hx hb dX6_windowPosition_19 (by decide) ?_
      refine lv_goto (tgt := 24) hx hb dX6_windowPosition_20 (by decide) ?_
      refine rvS (w0 := []) (As := [.int 1]) (rest := []) CF (k_X6_checkState l G 1 (by decide)) (va_cwS 1 hts gX6_windowPosition_X6_checkState rfl rfl rfl (by decide +kernel) ⟨Nat.le_of_ble_eq_true rfl, Nat.le_of_ble_eq_true rfl⟩) va_P_nil hY rfl hl.1 rfl (lv_room (Nat.le_of_ble_eq_true rfl)) dX6_windowPosition_24 ⟨Nat.zero_le _, Nat.zero_le _⟩ ?_
      refine lv_aload_n hx hb dX6_windowPosition_27 rfl (lv_at hl 0 rfl) ?_
      have hQ4 := va_P.subm (u := wStr G ad (o+1) s0) (fun q h => by simp only [wRR, List.mem_cons, List.mem_append, h, true_or, or_true]) hP
      refine va_getN (D := G.1) (ci := 5) (v := .ref (ad (o+1+28))) (C := RX5) (T := TX5) (N := 11) hx hb hts hiX5 hown hY.1 hQ4 0 rfl rfl 7 (by decide) (va_Nw.use rfl (hY.2.1 (.fieldLinkNest RX6 136 RX5 "chain" "LReservoirReed$Chain;" RX6) (List.mem_of_getElem? (i := 4) rfl))) (fun _ h9 => h9) rfl dX6_windowPosition_28 ?_
      have hQ5 := va_P.subm (u := wCha G ad (o+1+28) s0.2.2.2.2.2.2.2.2.2.2) (fun q h => by simp only [wStr, wRR, List.mem_cons, List.mem_append, h, true_or, or_true]) hP
      refine va_getN (D := G.1) (ci := 0) (v := .ref (ad (o+1+28+2))) (C := RX0) (T := TX0) (N := 6) hx hb hts hiX0 hown hY.1 hQ5 0 rfl rfl 1 (by decide) (va_Nw.use rfl (hY.2.1 (.fieldLinkNest RX6 146 RX0 "positions" "[I" RX6) (List.mem_of_getElem? (i := 7) rfl))) (fun _ h9 => h9) rfl dX6_windowPosition_31 ?_
      refine lv_aload_n hx hb dX6_windowPosition_34 rfl (lv_at hl 0 rfl) ?_
      have hQ6 := va_P.subm (u := wStr G ad (o+1) s0) (fun q h => by simp only [wRR, List.mem_cons, List.mem_append, h, true_or, or_true]) hP
      refine va_getN (D := G.1) (ci := 5) (v := .ref (ad (o+1+28))) (C := RX5) (T := TX5) (N := 11) hx hb hts hiX5 hown hY.1 hQ6 0 rfl rfl 7 (by decide) (va_Nw.use rfl (hY.2.1 (.fieldLinkNest RX6 136 RX5 "chain" "LReservoirReed$Chain;" RX6) (List.mem_of_getElem? (i := 4) rfl))) (fun _ h9 => h9) rfl dX6_windowPosition_35 ?_
      have hQ7 := va_P.subm (u := wCha G ad (o+1+28) s0.2.2.2.2.2.2.2.2.2.2) (fun q h => by simp only [wStr, wRR, List.mem_cons, List.mem_append, h, true_or, or_true]) hP
      refine va_getN (D := G.1) (ci := 0) (v := .int s0.2.2.2.2.2.2.2.2.2.2.2.1) (C := RX0) (T := TX0) (N := 6) hx hb hts hiX0 hown hY.1 hQ7 0 rfl rfl 3 (by decide) (va_Nw.use rfl (hY.2.1 (.fieldLinkNest RX6 143 RX0 "start" "I" RX6) (List.mem_of_getElem? (i := 6) rfl))) (fun _ h9 => h9) rfl dX6_windowPosition_38 ?_
      have hQ8 := va_P.subm (u := wCha G ad (o+1+28) s0.2.2.2.2.2.2.2.2.2.2) (fun q h => by simp only [wStr, wRR, List.mem_cons, List.mem_append, h, true_or, or_true]) hP
      refine rdS (w0 := [(ad (o+1+28+2), .inl (G.2.1, 300, .inl s0.2.2.2.2.2.2.2.2.2.2.2.2.2.2.2))]) (As := [.ref (ad (o+1+28+2)), .int s0.2.2.2.2.2.2.2.2.2.2.2.1]) (rest := []) CF (k_X6_at l G 300 (ad (o+1+28+2)) s0.2.2.2.2.2.2.2.2.2.2.2.2.2.2.2 s0.2.2.2.2.2.2.2.2.2.2.2.1 (by decide)) (va_cwS 2 hts gX6_windowPosition_X6_at rfl rfl rfl (by decide +kernel) ⟨Nat.le_of_ble_eq_true rfl, Nat.le_of_ble_eq_true rfl⟩) (hQ8.sub (ws' := [(ad (o+1+28+2), .inl (G.2.1, 300, .inl s0.2.2.2.2.2.2.2.2.2.2.2.2.2.2.2))]) [2] rfl) hY rfl hl.1 rfl (lv_room (Nat.le_of_ble_eq_true rfl)) dX6_windowPosition_41 ⟨Nat.zero_le _, Nat.zero_le _⟩ ?_
      exact rd_iret hx hb hr hlk (by first | with_reducible rfl | (simp only [rrCha, rrStr, sld_eq, eq_true q8_1, h16_3, ↓reduceIte]; done)) dX6_windowPosition_44
  · refine rdV (w0 := (wRR G ad o (k, s0, s1, mp, md))) (As := [.int st]) (rest := []) CF (k1_X6_streamOf l G ad o (k, s0, s1, mp, md) st q8_1) (cwV 1 hts gX6_windowPosition_X6_streamOf rfl rfl rfl (by decide +kernel) ⟨Nat.le_of_ble_eq_true rfl, Nat.le_of_ble_eq_true rfl⟩) hP hY rfl rfl rfl hl.1 rfl (lv_room (Nat.le_of_ble_eq_true rfl)) dX6_windowPosition_8 ⟨Nat.zero_le _, Nat.zero_le _⟩ ?_
    refine lv_astore_n (lv' := [(2, .ref (ad (o+32))), (0, .ref (ad o)), (1, .int st)]) hx hb dX6_windowPosition_11 rfl hl (by decide) rfl (fun ls hl => ?_)
    refine lv_aload_n hx hb dX6_windowPosition_12 rfl (lv_at hl 0 rfl) ?_
    have hQ9 := va_P.subm (u := wStr G ad (o+32) s1) (fun q h => by simp only [wRR, List.mem_cons, List.mem_append, h, true_or, or_true]) hP
    refine va_getN (D := G.1) (ci := 5) (v := .int s1.2.2.1) (C := RX5) (T := TX5) (N := 11) hx hb hts hiX5 hown hY.1 hQ9 0 rfl rfl 10 (by decide) (va_Nw.use rfl (hY.2.1 (.fieldLinkNest RX6 47 RX5 "taken" "I" RX6) (List.mem_of_getElem? (i := 11) rfl))) (fun _ h9 => h9) rfl dX6_windowPosition_13 ?_
    refine lv_if_le (tgt := 23) hx hb dX6_windowPosition_16 (by decide) (fun h16_10 => ?_) (fun h16_10 => ?_)
    · exact absurd h16_10 (by simpa only [rrStr, q8_1, ↓reduceIte] using hs)
    · refine lv_iconst (v := 1) hx hb dX6_windowPosition_19 (by decide) ?_
      refine lv_goto (tgt := 24) hx hb dX6_windowPosition_20 (by decide) ?_
      refine rvS (w0 := []) (As := [.int 1]) (rest := []) CF (k_X6_checkState l G 1 (by decide)) (va_cwS 1 hts gX6_windowPosition_X6_checkState rfl rfl rfl (by decide +kernel) ⟨Nat.le_of_ble_eq_true rfl, Nat.le_of_ble_eq_true rfl⟩) va_P_nil hY rfl hl.1 rfl (lv_room (Nat.le_of_ble_eq_true rfl)) dX6_windowPosition_24 ⟨Nat.zero_le _, Nat.zero_le _⟩ ?_
      refine lv_aload_n hx hb dX6_windowPosition_27 rfl (lv_at hl 0 rfl) ?_
      have hQ11 := va_P.subm (u := wStr G ad (o+32) s1) (fun q h => by simp only [wRR, List.mem_cons, List.mem_append, h, true_or, or_true]) hP
      refine va_getN (D := G.1) (ci := 5) (v := .ref (ad (o+32+28))) (C := RX5) (T := TX5) (N := 11) hx hb hts hiX5 hown hY.1 hQ11 0 rfl rfl 7 (by decide) (va_Nw.use rfl (hY.2.1 (.fieldLinkNest RX6 136 RX5 "chain" "LReservoirReed$Chain;" RX6) (List.mem_of_getElem? (i := 4) rfl))) (fun _ h9 => h9) rfl dX6_windowPosition_28 ?_
      have hQ12 := va_P.subm (u := wCha G ad (o+32+28) s1.2.2.2.2.2.2.2.2.2.2) (fun q h => by simp only [wStr, wRR, List.mem_cons, List.mem_append, h, true_or, or_true]) hP
      refine va_getN (D := G.1) (ci := 0) (v := .ref (ad (o+32+28+2))) (C := RX0) (T := TX0) (N := 6) hx hb hts hiX0 hown hY.1 hQ12 0 rfl rfl 1 (by decide) (va_Nw.use rfl (hY.2.1 (.fieldLinkNest RX6 146 RX0 "positions" "[I" RX6) (List.mem_of_getElem? (i := 7) rfl))) (fun _ h9 => h9) rfl dX6_windowPosition_31 ?_
      refine lv_aload_n hx hb dX6_windowPosition_34 rfl (lv_at hl 0 rfl) ?_
      have hQ13 := va_P.subm (u := wStr G ad (o+32) s1) (fun q h => by simp only [wRR, List.mem_cons, List.mem_append, h, true_or, or_true]) hP
      refine va_getN (D := G.1) (ci := 5) (v := .ref (ad (o+32+28))) (C := RX5) (T := TX5) (N := 11) hx hb hts hiX5 hown hY.1 hQ13 0 rfl rfl 7 (by decide) (va_Nw.use rfl (hY.2.1 (.fieldLinkNest RX6 136 RX5 "chain" "LReservoirReed$Chain;" RX6) (List.mem_of_getElem? (i := 4) rfl))) (fun _ h9 => h9) rfl dX6_windowPosition_35 ?_
      have hQ14 := va_P.subm (u := wCha G ad (o+32+28) s1.2.2.2.2.2.2.2.2.2.2) (fun q h => by simp only [wStr, wRR, List.mem_cons, List.mem_append, h, true_or, or_true]) hP
      refine va_getN (D := G.1) (ci := 0) (v := .int s1.2.2.2.2.2.2.2.2.2.2.2.1) (C := RX0) (T := TX0) (N := 6) hx hb hts hiX0 hown hY.1 hQ14 0 rfl rfl 3 (by decide) (va_Nw.use rfl (hY.2.1 (.fieldLinkNest RX6 143 RX0 "start" "I" RX6) (List.mem_of_getElem? (i := 6) rfl))) (fun _ h9 => h9) rfl dX6_windowPosition_38 ?_
      have hQ15 := va_P.subm (u := wCha G ad (o+32+28) s1.2.2.2.2.2.2.2.2.2.2) (fun q h => by simp only [wStr, wRR, List.mem_cons, List.mem_append, h, true_or, or_true]) hP
      refine rdS (w0 := [(ad (o+32+28+2), .inl (G.2.1, 300, .inl s1.2.2.2.2.2.2.2.2.2.2.2.2.2.2.2))]) (As := [.ref (ad (o+32+28+2)), .int s1.2.2.2.2.2.2.2.2.2.2.2.1]) (rest := []) CF (k_X6_at l G 300 (ad (o+32+28+2)) s1.2.2.2.2.2.2.2.2.2.2.2.2.2.2.2 s1.2.2.2.2.2.2.2.2.2.2.2.1 (by decide)) (va_cwS 2 hts gX6_windowPosition_X6_at rfl rfl rfl (by decide +kernel) ⟨Nat.le_of_ble_eq_true rfl, Nat.le_of_ble_eq_true rfl⟩) (hQ15.sub (ws' := [(ad (o+32+28+2), .inl (G.2.1, 300, .inl s1.2.2.2.2.2.2.2.2.2.2.2.2.2.2.2))]) [2] rfl) hY rfl hl.1 rfl (lv_room (Nat.le_of_ble_eq_true rfl)) dX6_windowPosition_41 ⟨Nat.zero_le _, Nat.zero_le _⟩ ?_
      exact rd_iret hx hb hr hlk (by first | with_reducible rfl | (simp only [rrCha, rrStr, sld_eq, q8_1, h16_10, ↓reduceIte]; done)) dX6_windowPosition_44

set_option maxHeartbeats 4000000 in
set_option maxRecDepth 100000 in
theorem kn_X6_windowPosition (l : Launch) (hl0 : l.stackTraces = false) (G : GT) (ad : Nat → Nat) (o : Nat) (sg : RRT) (st : Int32) (hk : ¬ (okA st 0 1)) : No l yX6_windowPosition wsX6_windowPosition { frames := 7, cells := 1, slots := 6, locals := 122 } G (wRR G ad o sg) (wRR G ad o sg) [.ref (ad o), .int st] "java/lang/IllegalArgumentException" := by
  intro sz
  obtain ⟨k, s0, s1, mp, md⟩ := sg
  refine vx_ofW (cc := cX6_windowPosition) (maxL := 3) (ret := (some .int)) (by decide) rfl ?_
  intro p e s m args below meth c s₁ B hml ht hv
  obtain ⟨rfl, hsz, hP, hY, hD0, hZ0⟩ := hv
  subst hsz
  have hD := hD0.self (sz := s.heap.size)
  generalize hAe : va_A (wRR G ad o (k, s0, s1, mp, md)) s.heap.size = A at hD hZ0 ⊢
  have hZ : Zs A s s.heap := hZ0
  have hA : ∀ q : Nat, s.heap.size ≤ q → A q := fun q h => by rw [← hAe]; exact Or.inr h
  have hS : va_S A s.heap s.heap [] := va_S.rf
  have hx := B.exec
  have hb := B.bytes
  have hr := B.returns
  have hts := atoms_spec (ws := wsX6_windowPosition) B.pre
  have hown : s.vm.findClass RX6 = some m.cls := findClass_of_methodNamed B.named
  have hlk := B.notSynchronized
  have CF : CallFix p m c cX6_windowPosition 3 s _ wsX6_windowPosition RX6 := ⟨hx, hb, hml, hown, hts⟩
  have hl := lv_entry ([.ref (ad o), .int st]) (n := 3) (Nat.le_of_ble_eq_true rfl)
  rw [lg_entry_eq]
  generalize (lg_sl ([.ref (ad o), .int st]) ++ List.replicate (3 - (lg_sl ([.ref (ad o), .int st])).length) Slot.unset).toArray = ls at hl ⊢
  have hl : lv_has ls 3 [(0, .ref (ad o)), (1, .int st)] := hl
  refine lv_iload_n hx hb dX6_windowPosition_0 rfl (lv_at hl 1 rfl) ?_
  refine lv_iconst (v := 0) hx hb dX6_windowPosition_1 (by decide) ?_
  refine lv_iconst (v := 1) hx hb dX6_windowPosition_2 (by decide) ?_
  by_cases q3_1 : okA st 0 1
  · refine rvS (w0 := []) (As := [.int st, .int 0, .int 1]) (rest := []) CF (k_X6_checkArgument l G st 0 1 q3_1) (va_cwS 3 hts gX6_windowPosition_X6_checkArgument rfl rfl rfl (by decide +kernel) ⟨Nat.le_of_ble_eq_true rfl, Nat.le_of_ble_eq_true rfl⟩) va_P_nil hY rfl hl.1 rfl (lv_room (Nat.le_of_ble_eq_true rfl)) dX6_windowPosition_3 ⟨Nat.zero_le _, Nat.zero_le _⟩ ?_
    exact absurd q3_1 hk
  · refine noS0 (As := [.int st, .int 0, .int 1]) (rest := []) CF (kn_X6_checkArgument l hl0 G st 0 1 q3_1) (va_cwS 3 hts gX6_windowPosition_X6_checkArgument rfl rfl rfl (by decide +kernel) ⟨Nat.le_of_ble_eq_true rfl, Nat.le_of_ble_eq_true rfl⟩) hP hD hS hA hY hZ rfl hl.1 rfl (lv_room (Nat.le_of_ble_eq_true rfl)) dX6_windowPosition_3 ⟨Nat.le_of_ble_eq_true rfl, Nat.le_of_ble_eq_true rfl⟩ (fun ce q9 H locs hP hD hS hce hcv hcl hgr => ?_)
    exact no_out ht hlk hce hcv hcl hgr hS hP (by first | with_reducible rfl | (simp only [rrCha, rrStr, sld_eq, q3_1, ↓reduceIte]; done))

set_option maxHeartbeats 4000000 in
set_option maxRecDepth 100000 in
theorem kn2_X6_windowPosition (l : Launch) (hl0 : l.stackTraces = false) (G : GT) (ad : Nat → Nat) (o : Nat) (sg : RRT) (st : Int32) (h0 : okA st 0 1) (hs : (rrStr sg st).2.2.1 ≤ 0) : No l yX6_windowPosition wsX6_windowPosition { frames := 7, cells := 1, slots := 6, locals := 122 } G (wRR G ad o sg) (wRR G ad o sg) [.ref (ad o), .int st] "java/lang/IllegalStateException" := by
  intro sz
  obtain ⟨k, s0, s1, mp, md⟩ := sg
  refine vx_ofW (cc := cX6_windowPosition) (maxL := 3) (ret := (some .int)) (by decide) rfl ?_
  intro p e s m args below meth c s₁ B hml ht hv
  obtain ⟨rfl, hsz, hP, hY, hD0, hZ0⟩ := hv
  subst hsz
  have hD := hD0.self (sz := s.heap.size)
  generalize hAe : va_A (wRR G ad o (k, s0, s1, mp, md)) s.heap.size = A at hD hZ0 ⊢
  have hZ : Zs A s s.heap := hZ0
  have hA : ∀ q : Nat, s.heap.size ≤ q → A q := fun q h => by rw [← hAe]; exact Or.inr h
  have hS : va_S A s.heap s.heap [] := va_S.rf
  have hx := B.exec
  have hb := B.bytes
  have hr := B.returns
  have hts := atoms_spec (ws := wsX6_windowPosition) B.pre
  have hown : s.vm.findClass RX6 = some m.cls := findClass_of_methodNamed B.named
  have hlk := B.notSynchronized
  have CF : CallFix p m c cX6_windowPosition 3 s _ wsX6_windowPosition RX6 := ⟨hx, hb, hml, hown, hts⟩
  have hiX5 : ∀ w ∈ wsX50, w ∈ wsX6_windowPosition := fun w h => (List.mem_cons_of_mem _ (List.mem_append_left _ (List.mem_append_left _ (List.mem_append_left _ (List.mem_append_left _ (List.mem_append_right _ h))))))
  have hl := lv_entry ([.ref (ad o), .int st]) (n := 3) (Nat.le_of_ble_eq_true rfl)
  rw [lg_entry_eq]
  generalize (lg_sl ([.ref (ad o), .int st]) ++ List.replicate (3 - (lg_sl ([.ref (ad o), .int st])).length) Slot.unset).toArray = ls at hl ⊢
  have hl : lv_has ls 3 [(0, .ref (ad o)), (1, .int st)] := hl
  refine lv_iload_n hx hb dX6_windowPosition_0 rfl (lv_at hl 1 rfl) ?_
  refine lv_iconst (v := 0) hx hb dX6_windowPosition_1 (by decide) ?_
  refine lv_iconst (v := 1) hx hb dX6_windowPosition_2 (by decide) ?_
  refine rvS (w0 := []) (As := [.int st, .int 0, .int 1]) (rest := []) CF (k_X6_checkArgument l G st 0 1 h0) (va_cwS 3 hts gX6_windowPosition_X6_checkArgument rfl rfl rfl (by decide +kernel) ⟨Nat.le_of_ble_eq_true rfl, Nat.le_of_ble_eq_true rfl⟩) va_P_nil hY rfl hl.1 rfl (lv_room (Nat.le_of_ble_eq_true rfl)) dX6_windowPosition_3 ⟨Nat.zero_le _, Nat.zero_le _⟩ ?_
  refine lv_aload_n hx hb dX6_windowPosition_6 rfl (lv_at hl 0 rfl) ?_
  refine lv_iload_n hx hb dX6_windowPosition_7 rfl (lv_at hl 1 rfl) ?_
  by_cases q8_1 : st = 0
  · refine rdV (w0 := (wRR G ad o (k, s0, s1, mp, md))) (As := [.int st]) (rest := []) CF (k0_X6_streamOf l G ad o (k, s0, s1, mp, md) st q8_1) (cwV 1 hts gX6_windowPosition_X6_streamOf rfl rfl rfl (by decide +kernel) ⟨Nat.le_of_ble_eq_true rfl, Nat.le_of_ble_eq_true rfl⟩) hP hY rfl rfl rfl hl.1 rfl (lv_room (Nat.le_of_ble_eq_true rfl)) dX6_windowPosition_8 ⟨Nat.zero_le _, Nat.zero_le _⟩ ?_
    refine lv_astore_n (lv' := [(2, .ref (ad (o+1))), (0, .ref (ad o)), (1, .int st)]) hx hb dX6_windowPosition_11 rfl hl (by decide) rfl (fun ls hl => ?_)
    refine lv_aload_n hx hb dX6_windowPosition_12 rfl (lv_at hl 0 rfl) ?_
    have hQ2 := va_P.subm (u := wStr G ad (o+1) s0) (fun q h => by simp only [wRR, List.mem_cons, List.mem_append, h, true_or, or_true]) hP
    refine va_getN (D := G.1) (ci := 5) (v := .int s0.2.2.1) (C := RX5) (T := TX5) (N := 11) hx hb hts hiX5 hown hY.1 hQ2 0 rfl rfl 10 (by decide) (va_Nw.use rfl (hY.2.1 (.fieldLinkNest RX6 47 RX5 "taken" "I" RX6) (List.mem_of_getElem? (i := 11) rfl))) (fun _ h9 => h9) rfl dX6_windowPosition_13 ?_
    refine lv_if_le (tgt := 23) hx hb dX6_windowPosition_16 (by decide) (fun h16_3 => ?_) (fun h16_3 => ?_)
    · refine lv_iconst (v := 0) hx hb dX6_windowPosition_23 (by decide) ?_
      refine noS0 (As := [.int 0]) (rest := []) CF (kn_X6_checkState l hl0 G 0 (fun h => h rfl)) (va_cwS 1 hts gX6_windowPosition_X6_checkState rfl rfl rfl (by decide +kernel) ⟨Nat.le_of_ble_eq_true rfl, Nat.le_of_ble_eq_true rfl⟩) hP hD hS hA hY hZ rfl hl.1 rfl (lv_room (Nat.le_of_ble_eq_true rfl)) dX6_windowPosition_24 ⟨Nat.le_of_ble_eq_true rfl, Nat.le_of_ble_eq_true rfl⟩ (fun ce q9 H locs hP hD hS hce hcv hcl hgr => ?_)
      exact no_out ht hlk hce hcv hcl hgr hS hP (by first | with_reducible rfl | (simp only [rrCha, rrStr, sld_eq, eq_true q8_1, h16_3, ↓reduceIte]; done))
    · exact absurd (by simpa only [rrStr, eq_true q8_1, ↓reduceIte] using hs) h16_3
  · refine rdV (w0 := (wRR G ad o (k, s0, s1, mp, md))) (As := [.int st]) (rest := []) CF (k1_X6_streamOf l G ad o (k, s0, s1, mp, md) st q8_1) (cwV 1 hts gX6_windowPosition_X6_streamOf rfl rfl rfl (by decide +kernel) ⟨Nat.le_of_ble_eq_true rfl, Nat.le_of_ble_eq_true rfl⟩) hP hY rfl rfl rfl hl.1 rfl (lv_room (Nat.le_of_ble_eq_true rfl)) dX6_windowPosition_8 ⟨Nat.zero_le _, Nat.zero_le _⟩ ?_
    refine lv_astore_n (lv' := [(2, .ref (ad (o+32))), (0, .ref (ad o)), (1, .int st)]) hx hb dX6_windowPosition_11 rfl hl (by decide) rfl (fun ls hl => ?_)
    refine lv_aload_n hx hb dX6_windowPosition_12 rfl (lv_at hl 0 rfl) ?_
    have hQ4 := va_P.subm (u := wStr G ad (o+32) s1) (fun q h => by simp only [wRR, List.mem_cons, List.mem_append, h, true_or, or_true]) hP
    refine va_getN (D := G.1) (ci := 5) (v := .int s1.2.2.1) (C := RX5) (T := TX5) (N := 11) hx hb hts hiX5 hown hY.1 hQ4 0 rfl rfl 10 (by decide) (va_Nw.use rfl (hY.2.1 (.fieldLinkNest RX6 47 RX5 "taken" "I" RX6) (List.mem_of_getElem? (i := 11) rfl))) (fun _ h9 => h9) rfl dX6_windowPosition_13 ?_
    refine lv_if_le (tgt := 23) hx hb dX6_windowPosition_16 (by decide) (fun h16_5 => ?_) (fun h16_5 => ?_)
    · refine lv_iconst (v := 0) hx hb dX6_windowPosition_23 (by decide) ?_
      refine noS0 (As := [.int 0]) (rest := []) CF (kn_X6_checkState l hl0 G 0 (fun h => h rfl)) (va_cwS 1 hts gX6_windowPosition_X6_checkState rfl rfl rfl (by decide +kernel) ⟨Nat.le_of_ble_eq_true rfl, Nat.le_of_ble_eq_true rfl⟩) hP hD hS hA hY hZ rfl hl.1 rfl (lv_room (Nat.le_of_ble_eq_true rfl)) dX6_windowPosition_24 ⟨Nat.le_of_ble_eq_true rfl, Nat.le_of_ble_eq_true rfl⟩ (fun ce q9 H locs hP hD hS hce hcv hcl hgr => ?_)
      exact no_out ht hlk hce hcv hcl hgr hS hP (by first | with_reducible rfl | (simp only [rrCha, rrStr, sld_eq, q8_1, h16_5, ↓reduceIte]; done))
    · exact absurd (by simpa only [rrStr, q8_1, ↓reduceIte] using hs) h16_5

set_option maxHeartbeats 4000000 in
set_option maxRecDepth 100000 in
theorem k_X6_chainLength (l : Launch) (G : GT) (ad : Nat → Nat) (o : Nat) (sg : RRT) (st : Int32) (h0 : okA st 0 1) : Rd l yX6_chainLength wsX6_chainLength { frames := 7, cells := 0, slots := 0, locals := 122 } G (wRR G ad o sg) [.ref (ad o), .int st] (.int (chaLen (rrCha sg st))) := by
  obtain ⟨k, s0, s1, mp, md⟩ := sg
  refine Met.ofW (cc := cX6_chainLength) (maxL := 2) (ret := (some .int)) (by decide) rfl ?_
  intro p e s m args below meth c s₁ B hml hv
  obtain ⟨rfl, hP, hY⟩ := hv
  have hx := B.exec
  have hb := B.bytes
  have hr := B.returns
  have hts := atoms_spec (ws := wsX6_chainLength) B.pre
  have hown : s.vm.findClass RX6 = some m.cls := findClass_of_methodNamed B.named
  have hlk := B.notSynchronized
  have CF : CallFix p m c cX6_chainLength 2 s _ wsX6_chainLength RX6 := ⟨hx, hb, hml, hown, hts⟩
  have hiX5 : ∀ w ∈ wsX50, w ∈ wsX6_chainLength := fun w h => (List.mem_cons_of_mem _ (List.mem_append_left _ (List.mem_append_left _ (List.mem_append_left _ (List.mem_append_right _ h)))))
  have hl := lv_entry ([.ref (ad o), .int st]) (n := 2) (Nat.le_of_ble_eq_true rfl)
  rw [lg_entry_eq]
  generalize (lg_sl ([.ref (ad o), .int st]) ++ List.replicate (2 - (lg_sl ([.ref (ad o), .int st])).length) Slot.unset).toArray = ls at hl ⊢
  have hl : lv_has ls 2 [(0, .ref (ad o)), (1, .int st)] := hl
  refine lv_iload_n hx hb dX6_chainLength_0 rfl (lv_at hl 1 rfl) ?_
  refine lv_iconst (v := 0) hx hb dX6_chainLength_1 (by decide) ?_
  refine lv_iconst (v := 1) hx hb dX6_chainLength_2 (by decide) ?_
  refine rvS (w0 := []) (As := [.int st, .int 0, .int 1]) (rest := []) CF (k_X6_checkArgument l G st 0 1 h0) (va_cwS 3 hts gX6_chainLength_X6_checkArgument rfl rfl rfl (by decide +kernel) ⟨Nat.le_of_ble_eq_true rfl, Nat.le_of_ble_eq_true rfl⟩) va_P_nil hY rfl hl.1 rfl (lv_room (Nat.le_of_ble_eq_true rfl)) dX6_chainLength_3 ⟨Nat.zero_le _, Nat.zero_le _⟩ ?_
  refine lv_aload_n hx hb dX6_chainLength_6 rfl (lv_at hl 0 rfl) ?_
  refine lv_iload_n hx hb dX6_chainLength_7 rfl (lv_at hl 1 rfl) ?_
  by_cases q8_1 : st = 0
  · refine rdV (w0 := (wRR G ad o (k, s0, s1, mp, md))) (As := [.int st]) (rest := []) CF (k0_X6_streamOf l G ad o (k, s0, s1, mp, md) st q8_1) (cwV 1 hts gX6_chainLength_X6_streamOf rfl rfl rfl (by decide +kernel) ⟨Nat.le_of_ble_eq_true rfl, Nat.le_of_ble_eq_true rfl⟩) hP hY rfl rfl rfl hl.1 rfl (lv_room (Nat.le_of_ble_eq_true rfl)) dX6_chainLength_8 ⟨Nat.zero_le _, Nat.zero_le _⟩ ?_
    have hQ2 := va_P.subm (u := wStr G ad (o+1) s0) (fun q h => by simp only [wRR, List.mem_cons, List.mem_append, h, true_or, or_true]) hP
    refine va_getN (D := G.1) (ci := 5) (v := .ref (ad (o+1+28))) (C := RX5) (T := TX5) (N := 11) hx hb hts hiX5 hown hY.1 hQ2 0 rfl rfl 7 (by decide) (va_Nw.use rfl (hY.2.1 (.fieldLinkNest RX6 136 RX5 "chain" "LReservoirReed$Chain;" RX6) (List.mem_of_getElem? (i := 4) rfl))) (fun _ h9 => h9) rfl dX6_chainLength_11 ?_
    have hQ3 := va_P.subm (u := wCha G ad (o+1+28) s0.2.2.2.2.2.2.2.2.2.2) (fun q h => by simp only [wStr, wRR, List.mem_cons, List.mem_append, h, true_or, or_true]) hP
    refine rdV (w0 := (wCha G ad (o+1+28) s0.2.2.2.2.2.2.2.2.2.2)) (As := []) (rest := []) CF (k_X0_length l G ad (o+1+28) s0.2.2.2.2.2.2.2.2.2.2) (cwV 0 hts gX6_chainLength_X0_length rfl rfl rfl (by decide +kernel) ⟨Nat.le_of_ble_eq_true rfl, Nat.le_of_ble_eq_true rfl⟩) hQ3 hY rfl rfl rfl hl.1 rfl (lv_room (Nat.le_of_ble_eq_true rfl)) dX6_chainLength_14 ⟨Nat.zero_le _, Nat.zero_le _⟩ ?_
    exact rd_iret hx hb hr hlk (by first | with_reducible rfl | (simp only [rrCha, rrStr, sld_eq, eq_true q8_1, ↓reduceIte]; done)) dX6_chainLength_17
  · refine rdV (w0 := (wRR G ad o (k, s0, s1, mp, md))) (As := [.int st]) (rest := []) CF (k1_X6_streamOf l G ad o (k, s0, s1, mp, md) st q8_1) (cwV 1 hts gX6_chainLength_X6_streamOf rfl rfl rfl (by decide +kernel) ⟨Nat.le_of_ble_eq_true rfl, Nat.le_of_ble_eq_true rfl⟩) hP hY rfl rfl rfl hl.1 rfl (lv_room (Nat.le_of_ble_eq_true rfl)) dX6_chainLength_8 ⟨Nat.zero_le _, Nat.zero_le _⟩ ?_
    have hQ4 := va_P.subm (u := wStr G ad (o+32) s1) (fun q h => by simp only [wRR, List.mem_cons, List.mem_append, h, true_or, or_true]) hP
    refine va_getN (D := G.1) (ci := 5) (v := .ref (ad (o+32+28))) (C := RX5) (T := TX5) (N := 11) hx hb hts hiX5 hown hY.1 hQ4 0 rfl rfl 7 (by decide) (va_Nw.use rfl (hY.2.1 (.fieldLinkNest RX6 136 RX5 "chain" "LReservoirReed$Chain;" RX6) (List.mem_of_getElem? (i := 4) rfl))) (fun _ h9 => h9) rfl dX6_chainLength_11 ?_
    have hQ5 := va_P.subm (u := wCha G ad (o+32+28) s1.2.2.2.2.2.2.2.2.2.2) (fun q h => by simp only [wStr, wRR, List.mem_cons, List.mem_append, h, true_or, or_true]) hP
    refine rdV (w0 := (wCha G ad (o+32+28) s1.2.2.2.2.2.2.2.2.2.2)) (As := []) (rest := []) CF (k_X0_length l G ad (o+32+28) s1.2.2.2.2.2.2.2.2.2.2) (cwV 0 hts gX6_chainLength_X0_length rfl rfl rfl (by decide +kernel) ⟨Nat.le_of_ble_eq_true rfl, Nat.le_of_ble_eq_true rfl⟩) hQ5 hY rfl rfl rfl hl.1 rfl (lv_room (Nat.le_of_ble_eq_true rfl)) dX6_chainLength_14 ⟨Nat.zero_le _, Nat.zero_le _⟩ ?_
    exact rd_iret hx hb hr hlk (by first | with_reducible rfl | (simp only [rrCha, rrStr, sld_eq, q8_1, ↓reduceIte]; done)) dX6_chainLength_17

set_option maxHeartbeats 4000000 in
set_option maxRecDepth 100000 in
theorem kn_X6_chainLength (l : Launch) (hl0 : l.stackTraces = false) (G : GT) (ad : Nat → Nat) (o : Nat) (sg : RRT) (st : Int32) (hk : ¬ (okA st 0 1)) : No l yX6_chainLength wsX6_chainLength { frames := 7, cells := 1, slots := 6, locals := 122 } G (wRR G ad o sg) (wRR G ad o sg) [.ref (ad o), .int st] "java/lang/IllegalArgumentException" := by
  intro sz
  obtain ⟨k, s0, s1, mp, md⟩ := sg
  refine vx_ofW (cc := cX6_chainLength) (maxL := 2) (ret := (some .int)) (by decide) rfl ?_
  intro p e s m args below meth c s₁ B hml ht hv
  obtain ⟨rfl, hsz, hP, hY, hD0, hZ0⟩ := hv
  subst hsz
  have hD := hD0.self (sz := s.heap.size)
  generalize hAe : va_A (wRR G ad o (k, s0, s1, mp, md)) s.heap.size = A at hD hZ0 ⊢
  have hZ : Zs A s s.heap := hZ0
  have hA : ∀ q : Nat, s.heap.size ≤ q → A q := fun q h => by rw [← hAe]; exact Or.inr h
  have hS : va_S A s.heap s.heap [] := va_S.rf
  have hx := B.exec
  have hb := B.bytes
  have hr := B.returns
  have hts := atoms_spec (ws := wsX6_chainLength) B.pre
  have hown : s.vm.findClass RX6 = some m.cls := findClass_of_methodNamed B.named
  have hlk := B.notSynchronized
  have CF : CallFix p m c cX6_chainLength 2 s _ wsX6_chainLength RX6 := ⟨hx, hb, hml, hown, hts⟩
  have hl := lv_entry ([.ref (ad o), .int st]) (n := 2) (Nat.le_of_ble_eq_true rfl)
  rw [lg_entry_eq]
  generalize (lg_sl ([.ref (ad o), .int st]) ++ List.replicate (2 - (lg_sl ([.ref (ad o), .int st])).length) Slot.unset).toArray = ls at hl ⊢
  have hl : lv_has ls 2 [(0, .ref (ad o)), (1, .int st)] := hl
  refine lv_iload_n hx hb dX6_chainLength_0 rfl (lv_at hl 1 rfl) ?_
  refine lv_iconst (v := 0) hx hb dX6_chainLength_1 (by decide) ?_
  refine lv_iconst (v := 1) hx hb dX6_chainLength_2 (by decide) ?_
  by_cases q3_1 : okA st 0 1
  · refine rvS (w0 := []) (As := [.int st, .int 0, .int 1]) (rest := []) CF (k_X6_checkArgument l G st 0 1 q3_1) (va_cwS 3 hts gX6_chainLength_X6_checkArgument rfl rfl rfl (by decide +kernel) ⟨Nat.le_of_ble_eq_true rfl, Nat.le_of_ble_eq_true rfl⟩) va_P_nil hY rfl hl.1 rfl (lv_room (Nat.le_of_ble_eq_true rfl)) dX6_chainLength_3 ⟨Nat.zero_le _, Nat.zero_le _⟩ ?_
    exact absurd q3_1 hk
  · refine noS0 (As := [.int st, .int 0, .int 1]) (rest := []) CF (kn_X6_checkArgument l hl0 G st 0 1 q3_1) (va_cwS 3 hts gX6_chainLength_X6_checkArgument rfl rfl rfl (by decide +kernel) ⟨Nat.le_of_ble_eq_true rfl, Nat.le_of_ble_eq_true rfl⟩) hP hD hS hA hY hZ rfl hl.1 rfl (lv_room (Nat.le_of_ble_eq_true rfl)) dX6_chainLength_3 ⟨Nat.le_of_ble_eq_true rfl, Nat.le_of_ble_eq_true rfl⟩ (fun ce q9 H locs hP hD hS hce hcv hcl hgr => ?_)
    exact no_out ht hlk hce hcv hcl hgr hS hP (by first | with_reducible rfl | (simp only [rrCha, rrStr, sld_eq, q3_1, ↓reduceIte]; done))

set_option maxHeartbeats 4000000 in
set_option maxRecDepth 100000 in
theorem k_X6_successor (l : Launch) (G : GT) (ad : Nat → Nat) (o : Nat) (sg : RRT) (st : Int32) (h0 : okA st 0 1) (hs : ¬ (rrStr sg st).2.2.1 ≤ 0) : Rd l yX6_successor wsX6_successor { frames := 7, cells := 0, slots := 0, locals := 122 } G (wRR G ad o sg) [.ref (ad o), .int st] (.int ((rrCha sg st).2.2.2.1)) := by
  obtain ⟨k, s0, s1, mp, md⟩ := sg
  refine Met.ofW (cc := cX6_successor) (maxL := 3) (ret := (some .int)) (by decide) rfl ?_
  intro p e s m args below meth c s₁ B hml hv
  obtain ⟨rfl, hP, hY⟩ := hv
  have hx := B.exec
  have hb := B.bytes
  have hr := B.returns
  have hts := atoms_spec (ws := wsX6_successor) B.pre
  have hown : s.vm.findClass RX6 = some m.cls := findClass_of_methodNamed B.named
  have hlk := B.notSynchronized
  have CF : CallFix p m c cX6_successor 3 s _ wsX6_successor RX6 := ⟨hx, hb, hml, hown, hts⟩
  have hiX5 : ∀ w ∈ wsX50, w ∈ wsX6_successor := fun w h => (List.mem_cons_of_mem _ (List.mem_append_left _ (List.mem_append_left _ (List.mem_append_left _ (List.mem_append_left _ (List.mem_append_right _ h))))))
  have hiX0 : ∀ w ∈ wsX00, w ∈ wsX6_successor := fun w h => (List.mem_cons_of_mem _ (List.mem_append_left _ (List.mem_append_left _ (List.mem_append_left _ (List.mem_append_right _ h)))))
  have hl := lv_entry ([.ref (ad o), .int st]) (n := 3) (Nat.le_of_ble_eq_true rfl)
  rw [lg_entry_eq]
  generalize (lg_sl ([.ref (ad o), .int st]) ++ List.replicate (3 - (lg_sl ([.ref (ad o), .int st])).length) Slot.unset).toArray = ls at hl ⊢
  have hl : lv_has ls 3 [(0, .ref (ad o)), (1, .int st)] := hl
  refine lv_iload_n hx hb dX6_successor_0 rfl (lv_at hl 1 rfl) ?_
  refine lv_iconst (v := 0) hx hb dX6_successor_1 (by decide) ?_
  refine lv_iconst (v := 1) hx hb dX6_successor_2 (by decide) ?_
  refine rvS (w0 := []) (As := [.int st, .int 0, .int 1]) (rest := []) CF (k_X6_checkArgument l G st 0 1 h0) (va_cwS 3 hts gX6_successor_X6_checkArgument rfl rfl rfl (by decide +kernel) ⟨Nat.le_of_ble_eq_true rfl, Nat.le_of_ble_eq_true rfl⟩) va_P_nil hY rfl hl.1 rfl (lv_room (Nat.le_of_ble_eq_true rfl)) dX6_successor_3 ⟨Nat.zero_le _, Nat.zero_le _⟩ ?_
  refine lv_aload_n hx hb dX6_successor_6 rfl (lv_at hl 0 rfl) ?_
  refine lv_iload_n hx hb dX6_successor_7 rfl (lv_at hl 1 rfl) ?_
  by_cases q8_1 : st = 0
  · refine rdV (w0 := (wRR G ad o (k, s0, s1, mp, md))) (As := [.int st]) (rest := []) CF (k0_X6_streamOf l G ad o (k, s0, s1, mp, md) st q8_1) (cwV 1 hts gX6_successor_X6_streamOf rfl rfl rfl (by decide +kernel) ⟨Nat.le_of_ble_eq_true rfl, Nat.le_of_ble_eq_true rfl⟩) hP hY rfl rfl rfl hl.1 rfl (lv_room (Nat.le_of_ble_eq_true rfl)) dX6_successor_8 ⟨Nat.zero_le _, Nat.zero_le _⟩ ?_
    refine lv_astore_n (lv' := [(2, .ref (ad (o+1))), (0, .ref (ad o)), (1, .int st)]) hx hb dX6_successor_11 rfl hl (by decide) rfl (fun ls hl => ?_)
    refine lv_aload_n hx hb dX6_successor_12 rfl (lv_at hl 0 rfl) ?_
    have hQ2 := va_P.subm (u := wStr G ad (o+1) s0) (fun q h => by simp only [wRR, List.mem_cons, List.mem_append, h, true_or, or_true]) hP
    refine va_getN (D := G.1) (ci := 5) (v := .int s0.2.2.1) (C := RX5) (T := TX5) (N := 11) hx hb hts hiX5 hown hY.1 hQ2 0 rfl rfl 10 (by decide) (va_Nw.use rfl (hY.2.1 (.fieldLinkNest RX6 47 RX5 "taken" "I" RX6) (List.mem_of_getElem? (i := 11) rfl))) (fun _ h9 => h9) rfl dX6_successor_13 ?_
    refine lv_if_le (tgt := 23) hx hb dX6_successor_16 (by decide) (fun h16_3 => ?_) (fun h16_3 => ?_)
    · exact absurd h16_3 (by simpa only [rrStr, eq_true q8_1, ↓reduceIte] using hs)
    · refine lv_iconst (v := 1) hx hb dX6_successor_19 (by decide) ?_
      refine lv_goto (tgt := 24) hx hb dX6_successor_20 (by decide) ?_
      refine rvS (w0 := []) (As := [.int 1]) (rest := []) CF (k_X6_checkState l G 1 (by decide)) (va_cwS 1 hts gX6_successor_X6_checkState rfl rfl rfl (by decide +kernel) ⟨Nat.le_of_ble_eq_true rfl, Nat.le_of_ble_eq_true rfl⟩) va_P_nil hY rfl hl.1 rfl (lv_room (Nat.le_of_ble_eq_true rfl)) dX6_successor_24 ⟨Nat.zero_le _, Nat.zero_le _⟩ ?_
      refine lv_aload_n hx hb dX6_successor_27 rfl (lv_at hl 0 rfl) ?_
      have hQ4 := va_P.subm (u := wStr G ad (o+1) s0) (fun q h => by simp only [wRR, List.mem_cons, List.mem_append, h, true_or, or_true]) hP
      refine va_getN (D := G.1) (ci := 5) (v := .ref (ad (o+1+28))) (C := RX5) (T := TX5) (N := 11) hx hb hts hiX5 hown hY.1 hQ4 0 rfl rfl 7 (by decide) (va_Nw.use rfl (hY.2.1 (.fieldLinkNest RX6 136 RX5 "chain" "LReservoirReed$Chain;" RX6) (List.mem_of_getElem? (i := 4) rfl))) (fun _ h9 => h9) rfl dX6_successor_28 ?_
      have hQ5 := va_P.subm (u := wCha G ad (o+1+28) s0.2.2.2.2.2.2.2.2.2.2) (fun q h => by simp only [wStr, wRR, List.mem_cons, List.mem_append, h, true_or, or_true]) hP
      refine va_getN (D := G.1) (ci := 0) (v := .int s0.2.2.2.2.2.2.2.2.2.2.2.2.2.1) (C := RX0) (T := TX0) (N := 6) hx hb hts hiX0 hown hY.1 hQ5 0 rfl rfl 5 (by decide) (va_Nw.use rfl (hY.2.1 (.fieldLinkNest RX6 150 RX0 "awaited" "I" RX6) (List.mem_of_getElem? (i := 8) rfl))) (fun _ h9 => h9) rfl dX6_successor_31 ?_
      exact rd_iret hx hb hr hlk (by first | with_reducible rfl | (simp only [rrCha, rrStr, sld_eq, eq_true q8_1, h16_3, ↓reduceIte]; done)) dX6_successor_34
  · refine rdV (w0 := (wRR G ad o (k, s0, s1, mp, md))) (As := [.int st]) (rest := []) CF (k1_X6_streamOf l G ad o (k, s0, s1, mp, md) st q8_1) (cwV 1 hts gX6_successor_X6_streamOf rfl rfl rfl (by decide +kernel) ⟨Nat.le_of_ble_eq_true rfl, Nat.le_of_ble_eq_true rfl⟩) hP hY rfl rfl rfl hl.1 rfl (lv_room (Nat.le_of_ble_eq_true rfl)) dX6_successor_8 ⟨Nat.zero_le _, Nat.zero_le _⟩ ?_
    refine lv_astore_n (lv' := [(2, .ref (ad (o+32))), (0, .ref (ad o)), (1, .int st)]) hx hb dX6_successor_11 rfl hl (by decide) rfl (fun ls hl => ?_)
    refine lv_aload_n hx hb dX6_successor_12 rfl (lv_at hl 0 rfl) ?_
    have hQ6 := va_P.subm (u := wStr G ad (o+32) s1) (fun q h => by simp only [wRR, List.mem_cons, List.mem_append, h, true_or, or_true]) hP
    refine va_getN (D := G.1) (ci := 5) (v := .int s1.2.2.1) (C := RX5) (T := TX5) (N := 11) hx hb hts hiX5 hown hY.1 hQ6 0 rfl rfl 10 (by decide) (va_Nw.use rfl (hY.2.1 (.fieldLinkNest RX6 47 RX5 "taken" "I" RX6) (List.mem_of_getElem? (i := 11) rfl))) (fun _ h9 => h9) rfl dX6_successor_13 ?_
    refine lv_if_le (tgt := 23) hx hb dX6_successor_16 (by decide) (fun h16_7 => ?_) (fun h16_7 => ?_)
    · exact absurd h16_7 (by simpa only [rrStr, q8_1, ↓reduceIte] using hs)
    · refine lv_iconst (v := 1) hx hb dX6_successor_19 (by decide) ?_
      refine lv_goto (tgt := 24) hx hb dX6_successor_20 (by decide) ?_
      refine rvS (w0 := []) (As := [.int 1]) (rest := []) CF (k_X6_checkState l G 1 (by decide)) (va_cwS 1 hts gX6_successor_X6_checkState rfl rfl rfl (by decide +kernel) ⟨Nat.le_of_ble_eq_true rfl, Nat.le_of_ble_eq_true rfl⟩) va_P_nil hY rfl hl.1 rfl (lv_room (Nat.le_of_ble_eq_true rfl)) dX6_successor_24 ⟨Nat.zero_le _, Nat.zero_le _⟩ ?_
      refine lv_aload_n hx hb dX6_successor_27 rfl (lv_at hl 0 rfl) ?_
      have hQ8 := va_P.subm (u := wStr G ad (o+32) s1) (fun q h => by simp only [wRR, List.mem_cons, List.mem_append, h, true_or, or_true]) hP
      refine va_getN (D := G.1) (ci := 5) (v := .ref (ad (o+32+28))) (C := RX5) (T := TX5) (N := 11) hx hb hts hiX5 hown hY.1 hQ8 0 rfl rfl 7 (by decide) (va_Nw.use rfl (hY.2.1 (.fieldLinkNest RX6 136 RX5 "chain" "LReservoirReed$Chain;" RX6) (List.mem_of_getElem? (i := 4) rfl))) (fun _ h9 => h9) rfl dX6_successor_28 ?_
      have hQ9 := va_P.subm (u := wCha G ad (o+32+28) s1.2.2.2.2.2.2.2.2.2.2) (fun q h => by simp only [wStr, wRR, List.mem_cons, List.mem_append, h, true_or, or_true]) hP
      refine va_getN (D := G.1) (ci := 0) (v := .int s1.2.2.2.2.2.2.2.2.2.2.2.2.2.1) (C := RX0) (T := TX0) (N := 6) hx hb hts hiX0 hown hY.1 hQ9 0 rfl rfl 5 (by decide) (va_Nw.use rfl (hY.2.1 (.fieldLinkNest RX6 150 RX0 "awaited" "I" RX6) (List.mem_of_getElem? (i := 8) rfl))) (fun _ h9 => h9) rfl dX6_successor_31 ?_
      exact rd_iret hx hb hr hlk (by first | with_reducible rfl | (simp only [rrCha, rrStr, sld_eq, q8_1, h16_7, ↓reduceIte]; done)) dX6_successor_34

set_option maxHeartbeats 4000000 in
set_option maxRecDepth 100000 in
theorem kn_X6_successor (l : Launch) (hl0 : l.stackTraces = false) (G : GT) (ad : Nat → Nat) (o : Nat) (sg : RRT) (st : Int32) (hk : ¬ (okA st 0 1)) : No l yX6_successor wsX6_successor { frames := 7, cells := 1, slots := 6, locals := 122 } G (wRR G ad o sg) (wRR G ad o sg) [.ref (ad o), .int st] "java/lang/IllegalArgumentException" := by
  intro sz
  obtain ⟨k, s0, s1, mp, md⟩ := sg
  refine vx_ofW (cc := cX6_successor) (maxL := 3) (ret := (some .int)) (by decide) rfl ?_
  intro p e s m args below meth c s₁ B hml ht hv
  obtain ⟨rfl, hsz, hP, hY, hD0, hZ0⟩ := hv
  subst hsz
  have hD := hD0.self (sz := s.heap.size)
  generalize hAe : va_A (wRR G ad o (k, s0, s1, mp, md)) s.heap.size = A at hD hZ0 ⊢
  have hZ : Zs A s s.heap := hZ0
  have hA : ∀ q : Nat, s.heap.size ≤ q → A q := fun q h => by rw [← hAe]; exact Or.inr h
  have hS : va_S A s.heap s.heap [] := va_S.rf
  have hx := B.exec
  have hb := B.bytes
  have hr := B.returns
  have hts := atoms_spec (ws := wsX6_successor) B.pre
  have hown : s.vm.findClass RX6 = some m.cls := findClass_of_methodNamed B.named
  have hlk := B.notSynchronized
  have CF : CallFix p m c cX6_successor 3 s _ wsX6_successor RX6 := ⟨hx, hb, hml, hown, hts⟩
  have hl := lv_entry ([.ref (ad o), .int st]) (n := 3) (Nat.le_of_ble_eq_true rfl)
  rw [lg_entry_eq]
  generalize (lg_sl ([.ref (ad o), .int st]) ++ List.replicate (3 - (lg_sl ([.ref (ad o), .int st])).length) Slot.unset).toArray = ls at hl ⊢
  have hl : lv_has ls 3 [(0, .ref (ad o)), (1, .int st)] := hl
  refine lv_iload_n hx hb dX6_successor_0 rfl (lv_at hl 1 rfl) ?_
  refine lv_iconst (v := 0) hx hb dX6_successor_1 (by decide) ?_
  refine lv_iconst (v := 1) hx hb dX6_successor_2 (by decide) ?_
  by_cases q3_1 : okA st 0 1
  · refine rvS (w0 := []) (As := [.int st, .int 0, .int 1]) (rest := []) CF (k_X6_checkArgument l G st 0 1 q3_1) (va_cwS 3 hts gX6_successor_X6_checkArgument rfl rfl rfl (by decide +kernel) ⟨Nat.le_of_ble_eq_true rfl, Nat.le_of_ble_eq_true rfl⟩) va_P_nil hY rfl hl.1 rfl (lv_room (Nat.le_of_ble_eq_true rfl)) dX6_successor_3 ⟨Nat.zero_le _, Nat.zero_le _⟩ ?_
    exact absurd q3_1 hk
  · refine noS0 (As := [.int st, .int 0, .int 1]) (rest := []) CF (kn_X6_checkArgument l hl0 G st 0 1 q3_1) (va_cwS 3 hts gX6_successor_X6_checkArgument rfl rfl rfl (by decide +kernel) ⟨Nat.le_of_ble_eq_true rfl, Nat.le_of_ble_eq_true rfl⟩) hP hD hS hA hY hZ rfl hl.1 rfl (lv_room (Nat.le_of_ble_eq_true rfl)) dX6_successor_3 ⟨Nat.le_of_ble_eq_true rfl, Nat.le_of_ble_eq_true rfl⟩ (fun ce q9 H locs hP hD hS hce hcv hcl hgr => ?_)
    exact no_out ht hlk hce hcv hcl hgr hS hP (by first | with_reducible rfl | (simp only [rrCha, rrStr, sld_eq, q3_1, ↓reduceIte]; done))

set_option maxHeartbeats 4000000 in
set_option maxRecDepth 100000 in
theorem kn2_X6_successor (l : Launch) (hl0 : l.stackTraces = false) (G : GT) (ad : Nat → Nat) (o : Nat) (sg : RRT) (st : Int32) (h0 : okA st 0 1) (hs : (rrStr sg st).2.2.1 ≤ 0) : No l yX6_successor wsX6_successor { frames := 7, cells := 1, slots := 6, locals := 122 } G (wRR G ad o sg) (wRR G ad o sg) [.ref (ad o), .int st] "java/lang/IllegalStateException" := by
  intro sz
  obtain ⟨k, s0, s1, mp, md⟩ := sg
  refine vx_ofW (cc := cX6_successor) (maxL := 3) (ret := (some .int)) (by decide) rfl ?_
  intro p e s m args below meth c s₁ B hml ht hv
  obtain ⟨rfl, hsz, hP, hY, hD0, hZ0⟩ := hv
  subst hsz
  have hD := hD0.self (sz := s.heap.size)
  generalize hAe : va_A (wRR G ad o (k, s0, s1, mp, md)) s.heap.size = A at hD hZ0 ⊢
  have hZ : Zs A s s.heap := hZ0
  have hA : ∀ q : Nat, s.heap.size ≤ q → A q := fun q h => by rw [← hAe]; exact Or.inr h
  have hS : va_S A s.heap s.heap [] := va_S.rf
  have hx := B.exec
  have hb := B.bytes
  have hr := B.returns
  have hts := atoms_spec (ws := wsX6_successor) B.pre
  have hown : s.vm.findClass RX6 = some m.cls := findClass_of_methodNamed B.named
  have hlk := B.notSynchronized
  have CF : CallFix p m c cX6_successor 3 s _ wsX6_successor RX6 := ⟨hx, hb, hml, hown, hts⟩
  have hiX5 : ∀ w ∈ wsX50, w ∈ wsX6_successor := fun w h => (List.mem_cons_of_mem _ (List.mem_append_left _ (List.mem_append_left _ (List.mem_append_left _ (List.mem_append_left _ (List.mem_append_right _ h))))))
  have hl := lv_entry ([.ref (ad o), .int st]) (n := 3) (Nat.le_of_ble_eq_true rfl)
  rw [lg_entry_eq]
  generalize (lg_sl ([.ref (ad o), .int st]) ++ List.replicate (3 - (lg_sl ([.ref (ad o), .int st])).length) Slot.unset).toArray = ls at hl ⊢
  have hl : lv_has ls 3 [(0, .ref (ad o)), (1, .int st)] := hl
  refine lv_iload_n hx hb dX6_successor_0 rfl (lv_at hl 1 rfl) ?_
  refine lv_iconst (v := 0) hx hb dX6_successor_1 (by decide) ?_
  refine lv_iconst (v := 1) hx hb dX6_successor_2 (by decide) ?_
  refine rvS (w0 := []) (As := [.int st, .int 0, .int 1]) (rest := []) CF (k_X6_checkArgument l G st 0 1 h0) (va_cwS 3 hts gX6_successor_X6_checkArgument rfl rfl rfl (by decide +kernel) ⟨Nat.le_of_ble_eq_true rfl, Nat.le_of_ble_eq_true rfl⟩) va_P_nil hY rfl hl.1 rfl (lv_room (Nat.le_of_ble_eq_true rfl)) dX6_successor_3 ⟨Nat.zero_le _, Nat.zero_le _⟩ ?_
  refine lv_aload_n hx hb dX6_successor_6 rfl (lv_at hl 0 rfl) ?_
  refine lv_iload_n hx hb dX6_successor_7 rfl (lv_at hl 1 rfl) ?_
  by_cases q8_1 : st = 0
  · refine rdV (w0 := (wRR G ad o (k, s0, s1, mp, md))) (As := [.int st]) (rest := []) CF (k0_X6_streamOf l G ad o (k, s0, s1, mp, md) st q8_1) (cwV 1 hts gX6_successor_X6_streamOf rfl rfl rfl (by decide +kernel) ⟨Nat.le_of_ble_eq_true rfl, Nat.le_of_ble_eq_true rfl⟩) hP hY rfl rfl rfl hl.1 rfl (lv_room (Nat.le_of_ble_eq_true rfl)) dX6_successor_8 ⟨Nat.zero_le _, Nat.zero_le _⟩ ?_
    refine lv_astore_n (lv' := [(2, .ref (ad (o+1))), (0, .ref (ad o)), (1, .int st)]) hx hb dX6_successor_11 rfl hl (by decide) rfl (fun ls hl => ?_)
    refine lv_aload_n hx hb dX6_successor_12 rfl (lv_at hl 0 rfl) ?_
    have hQ2 := va_P.subm (u := wStr G ad (o+1) s0) (fun q h => by simp only [wRR, List.mem_cons, List.mem_append, h, true_or, or_true]) hP
    refine va_getN (D := G.1) (ci := 5) (v := .int s0.2.2.1) (C := RX5) (T := TX5) (N := 11) hx hb hts hiX5 hown hY.1 hQ2 0 rfl rfl 10 (by decide) (va_Nw.use rfl (hY.2.1 (.fieldLinkNest RX6 47 RX5 "taken" "I" RX6) (List.mem_of_getElem? (i := 11) rfl))) (fun _ h9 => h9) rfl dX6_successor_13 ?_
    refine lv_if_le (tgt := 23) hx hb dX6_successor_16 (by decide) (fun h16_3 => ?_) (fun h16_3 => ?_)
    · refine lv_iconst (v := 0) hx hb dX6_successor_23 (by decide) ?_
      refine noS0 (As := [.int 0]) (rest := []) CF (kn_X6_checkState l hl0 G 0 (fun h => h rfl)) (va_cwS 1 hts gX6_successor_X6_checkState rfl rfl rfl (by decide +kernel) ⟨Nat.le_of_ble_eq_true rfl, Nat.le_of_ble_eq_true rfl⟩) hP hD hS hA hY hZ rfl hl.1 rfl (lv_room (Nat.le_of_ble_eq_true rfl)) dX6_successor_24 ⟨Nat.le_of_ble_eq_true rfl, Nat.le_of_ble_eq_true rfl⟩ (fun ce q9 H locs hP hD hS hce hcv hcl hgr => ?_)
      exact no_out ht hlk hce hcv hcl hgr hS hP (by first | with_reducible rfl | (simp only [rrCha, rrStr, sld_eq, eq_true q8_1, h16_3, ↓reduceIte]; done))
    · exact absurd (by simpa only [rrStr, eq_true q8_1, ↓reduceIte] using hs) h16_3
  · refine rdV (w0 := (wRR G ad o (k, s0, s1, mp, md))) (As := [.int st]) (rest := []) CF (k1_X6_streamOf l G ad o (k, s0, s1, mp, md) st q8_1) (cwV 1 hts gX6_successor_X6_streamOf rfl rfl rfl (by decide +kernel) ⟨Nat.le_of_ble_eq_true rfl, Nat.le_of_ble_eq_true rfl⟩) hP hY rfl rfl rfl hl.1 rfl (lv_room (Nat.le_of_ble_eq_true rfl)) dX6_successor_8 ⟨Nat.zero_le _, Nat.zero_le _⟩ ?_
    refine lv_astore_n (lv' := [(2, .ref (ad (o+32))), (0, .ref (ad o)), (1, .int st)]) hx hb dX6_successor_11 rfl hl (by decide) rfl (fun ls hl => ?_)
    refine lv_aload_n hx hb dX6_successor_12 rfl (lv_at hl 0 rfl) ?_
    have hQ4 := va_P.subm (u := wStr G ad (o+32) s1) (fun q h => by simp only [wRR, List.mem_cons, List.mem_append, h, true_or, or_true]) hP
    refine va_getN (D := G.1) (ci := 5) (v := .int s1.2.2.1) (C := RX5) (T := TX5) (N := 11) hx hb hts hiX5 hown hY.1 hQ4 0 rfl rfl 10 (by decide) (va_Nw.use rfl (hY.2.1 (.fieldLinkNest RX6 47 RX5 "taken" "I" RX6) (List.mem_of_getElem? (i := 11) rfl))) (fun _ h9 => h9) rfl dX6_successor_13 ?_
    refine lv_if_le (tgt := 23) hx hb dX6_successor_16 (by decide) (fun h16_5 => ?_) (fun h16_5 => ?_)
    · refine lv_iconst (v := 0) hx hb dX6_successor_23 (by decide) ?_
      refine noS0 (As := [.int 0]) (rest := []) CF (kn_X6_checkState l hl0 G 0 (fun h => h rfl)) (va_cwS 1 hts gX6_successor_X6_checkState rfl rfl rfl (by decide +kernel) ⟨Nat.le_of_ble_eq_true rfl, Nat.le_of_ble_eq_true rfl⟩) hP hD hS hA hY hZ rfl hl.1 rfl (lv_room (Nat.le_of_ble_eq_true rfl)) dX6_successor_24 ⟨Nat.le_of_ble_eq_true rfl, Nat.le_of_ble_eq_true rfl⟩ (fun ce q9 H locs hP hD hS hce hcv hcl hgr => ?_)
      exact no_out ht hlk hce hcv hcl hgr hS hP (by first | with_reducible rfl | (simp only [rrCha, rrStr, sld_eq, q8_1, h16_5, ↓reduceIte]; done))
    · exact absurd (by simpa only [rrStr, q8_1, ↓reduceIte] using hs) h16_5
