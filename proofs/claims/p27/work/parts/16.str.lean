set_option maxHeartbeats 4000000 in
set_option maxRecDepth 100000 in
theorem k_X5_makeEmpty (l : Launch) (G : GT) (ad : Nat → Nat) (o : Nat) (sg : StrT) : Wr l yX5_makeEmpty wsX5_makeEmpty { frames := 2, cells := 0, slots := 0, locals := 42 } G (wStr G ad o sg) (wStr G ad o (strEmpty sg)) [.ref (ad o)] none := by
  intro sz
  obtain ⟨k, w, ta, r, g0, g1, g2, g3, pr, ds, ch⟩ := sg
  refine Met.ofW (cc := cX5_makeEmpty) (maxL := 1) (ret := none) (by decide) rfl ?_
  intro p e s m args below meth c s₁ B hml hv
  obtain ⟨rfl, hsz, hP, hY, hD0⟩ := hv
  subst hsz
  have hD := hD0.self (sz := s.heap.size)
  generalize hAe : va_A (wStr G ad o (k, w, ta, r, g0, g1, g2, g3, pr, ds, ch)) s.heap.size = A at hD ⊢
  have hA : ∀ q : Nat, s.heap.size ≤ q → A q := fun q h => by rw [← hAe]; exact Or.inr h
  have hS : va_S A s.heap s.heap [] := va_S.rf
  have hx := B.exec
  have hb := B.bytes
  have hr := B.returns
  have hts := atoms_spec (ws := wsX5_makeEmpty) B.pre
  have hown : s.vm.findClass RX5 = some m.cls := findClass_of_methodNamed B.named
  have hlk := B.notSynchronized
  have CF : CallFix p m c cX5_makeEmpty 1 s _ wsX5_makeEmpty RX5 := ⟨hx, hb, hml, hown, hts⟩
  have hiX5 : ∀ w ∈ wsX50, w ∈ wsX5_makeEmpty := fun w h => (List.mem_cons_of_mem _ (List.mem_append_left _ (List.mem_append_left _ (List.mem_append_left _ (List.mem_append_left _ (List.mem_append_left _ (List.mem_append_right _ h)))))))
  have kf63 := hts (.fieldLink RX5 63 "ReservoirReed$Stream" "taken" "I") (List.mem_cons_of_mem _ (List.mem_append_left _ (List.mem_append_left _ (List.mem_append_left _ (List.mem_append_left _ (List.mem_append_left _ (List.mem_append_left _ (List.mem_append_left _ (List.mem_of_getElem? (i := 0) rfl)))))))))
  have kf10 := hts (.fieldLink RX5 10 "ReservoirReed$Stream" "reservoir" "LReservoirReed$Reservoir;") (List.mem_cons_of_mem _ (List.mem_append_left _ (List.mem_append_left _ (List.mem_append_left _ (List.mem_append_left _ (List.mem_append_left _ (List.mem_append_left _ (List.mem_append_left _ (List.mem_of_getElem? (i := 1) rfl)))))))))
  have kf53 := hts (.fieldLink RX5 53 "ReservoirReed$Stream" "size" "I") (List.mem_cons_of_mem _ (List.mem_append_left _ (List.mem_append_left _ (List.mem_append_left _ (List.mem_append_left _ (List.mem_append_left _ (List.mem_append_left _ (List.mem_append_left _ (List.mem_of_getElem? (i := 2) rfl)))))))))
  have kf19 := hts (.fieldLink RX5 19 "ReservoirReed$Stream" "group0" "LReservoirReed$Group;") (List.mem_cons_of_mem _ (List.mem_append_left _ (List.mem_append_left _ (List.mem_append_left _ (List.mem_append_left _ (List.mem_append_left _ (List.mem_append_left _ (List.mem_append_left _ (List.mem_of_getElem? (i := 3) rfl)))))))))
  have kf23 := hts (.fieldLink RX5 23 "ReservoirReed$Stream" "group1" "LReservoirReed$Group;") (List.mem_cons_of_mem _ (List.mem_append_left _ (List.mem_append_left _ (List.mem_append_left _ (List.mem_append_left _ (List.mem_append_left _ (List.mem_append_left _ (List.mem_append_left _ (List.mem_of_getElem? (i := 4) rfl)))))))))
  have kf26 := hts (.fieldLink RX5 26 "ReservoirReed$Stream" "group2" "LReservoirReed$Group;") (List.mem_cons_of_mem _ (List.mem_append_left _ (List.mem_append_left _ (List.mem_append_left _ (List.mem_append_left _ (List.mem_append_left _ (List.mem_append_left _ (List.mem_append_left _ (List.mem_of_getElem? (i := 5) rfl)))))))))
  have kf29 := hts (.fieldLink RX5 29 "ReservoirReed$Stream" "group3" "LReservoirReed$Group;") (List.mem_cons_of_mem _ (List.mem_append_left _ (List.mem_append_left _ (List.mem_append_left _ (List.mem_append_left _ (List.mem_append_left _ (List.mem_append_left _ (List.mem_append_left _ (List.mem_of_getElem? (i := 6) rfl)))))))))
  have kf35 := hts (.fieldLink RX5 35 "ReservoirReed$Stream" "priorities" "LReservoirReed$Priorities;") (List.mem_cons_of_mem _ (List.mem_append_left _ (List.mem_append_left _ (List.mem_append_left _ (List.mem_append_left _ (List.mem_append_left _ (List.mem_append_left _ (List.mem_append_left _ (List.mem_of_getElem? (i := 7) rfl)))))))))
  have kf42 := hts (.fieldLink RX5 42 "ReservoirReed$Stream" "distinct" "LReservoirReed$Distinct;") (List.mem_cons_of_mem _ (List.mem_append_left _ (List.mem_append_left _ (List.mem_append_left _ (List.mem_append_left _ (List.mem_append_left _ (List.mem_append_left _ (List.mem_append_left _ (List.mem_of_getElem? (i := 8) rfl)))))))))
  have kf49 := hts (.fieldLink RX5 49 "ReservoirReed$Stream" "chain" "LReservoirReed$Chain;") (List.mem_cons_of_mem _ (List.mem_append_left _ (List.mem_append_left _ (List.mem_append_left _ (List.mem_append_left _ (List.mem_append_left _ (List.mem_append_left _ (List.mem_append_left _ (List.mem_of_getElem? (i := 9) rfl)))))))))
  have kf57 := hts (.fieldLink RX5 57 "ReservoirReed$Stream" "window" "I") (List.mem_cons_of_mem _ (List.mem_append_left _ (List.mem_append_left _ (List.mem_append_left _ (List.mem_append_left _ (List.mem_append_left _ (List.mem_append_left _ (List.mem_append_left _ (List.mem_of_getElem? (i := 10) rfl)))))))))
  have hl := lv_entry ([.ref (ad o)]) (n := 1) (Nat.le_of_ble_eq_true rfl)
  rw [lg_entry_eq]
  generalize (lg_sl ([.ref (ad o)]) ++ List.replicate (1 - (lg_sl ([.ref (ad o)])).length) Slot.unset).toArray = ls at hl ⊢
  have hl : lv_has ls 1 [(0, .ref (ad o))] := hl
  refine lv_aload_n hx hb dX5_makeEmpty_0 rfl (lv_at hl 0 rfl) ?_
  refine lv_iconst (v := 0) hx hb dX5_makeEmpty_1 (by decide) ?_
  refine va_put (D := G.1) (ci := 5) (v := .int 0) (ty := .int) (C := RX5) (T := TX5) (N := 11) hx hb hts hiX5 tyX5 tyX5_ok nmX5 hown hY.1 hP hD hS 0 rfl rfl 10 (by decide) kf63 (fun _ h9 => h9) rfl (by decide +kernel) rfl rfl (Nat.le_of_ble_eq_true rfl) dX5_makeEmpty_2 (fun H locs hP hD hS => ?_)
  have hP : va_P G.1 vwCl (wStr G ad o (k, w, 0, r, g0, g1, g2, g3, pr, ds, ch)) H := hP
  have hD : va_D A (wStr G ad o (k, w, 0, r, g0, g1, g2, g3, pr, ds, ch)) := hD
  refine lv_aload_n hx hb dX5_makeEmpty_5 rfl (lv_at hl 0 rfl) ?_
  refine va_get (D := G.1) (ci := 5) (v := .ref (ad (o+1))) (C := RX5) (T := TX5) (N := 11) hx hb hts hiX5 hown hY.1 hP 0 rfl rfl 0 (by decide) kf10 (fun _ h9 => h9) rfl dX5_makeEmpty_6 ?_
  refine lv_aload_n hx hb dX5_makeEmpty_9 rfl (lv_at hl 0 rfl) ?_
  refine va_get (D := G.1) (ci := 5) (v := .int k) (C := RX5) (T := TX5) (N := 11) hx hb hts hiX5 hown hY.1 hP 0 rfl rfl 8 (by decide) kf53 (fun _ h9 => h9) rfl dX5_makeEmpty_10 ?_
  have eW1 : (wStr G ad o (k, w, 0, r, g0, g1, g2, g3, pr, ds, ch)) = ([(ad o, .inr (5, [.ref (ad (o+1)), .ref (ad (o+4)), .ref (ad (o+8)), .ref (ad (o+12)), .ref (ad (o+16)), .ref (ad (o+20)), .ref (ad (o+25)), .ref (ad (o+28)), .int k, .int w, .int 0]))] : va_W) ++ ((wRes G ad (o+1) r) ++ (wGrp G ad (o+4) g0 ++ (wGrp G ad (o+8) g1 ++ (wGrp G ad (o+12) g2 ++ (wGrp G ad (o+16) g3 ++ (wPri G ad (o+20) pr ++ (wDis G ad (o+25) ds ++ (wCha G ad (o+28) ch)))))) : va_W)) := by simp only [wStr, List.cons_append, List.append_assoc, List.nil_append, List.append_nil]
  rw [eW1] at hP hD
  refine wrV ([(ad o, .inr (5, [.ref (ad (o+1)), .ref (ad (o+4)), .ref (ad (o+8)), .ref (ad (o+12)), .ref (ad (o+16)), .ref (ad (o+20)), .ref (ad (o+25)), .ref (ad (o+28)), .int k, .int w, .int 0]))] : va_W) (wRes G ad (o+1) r) (wGrp G ad (o+4) g0 ++ (wGrp G ad (o+8) g1 ++ (wGrp G ad (o+12) g2 ++ (wGrp G ad (o+16) g3 ++ (wPri G ad (o+20) pr ++ (wDis G ad (o+25) ds ++ (wCha G ad (o+28) ch)))))) : va_W) (wRes G ad (o+1) (resStart k r)) (As := [.int k]) (rest := []) CF (k_X4_startAgain l G ad (o+1) r k) (cwV 1 hts gX5_makeEmpty_X4_startAgain rfl rfl rfl (by decide +kernel) ⟨Nat.le_of_ble_eq_true rfl, Nat.le_of_ble_eq_true rfl⟩) hP hD hS hA hY rfl rfl (fst_Res _ _ _ _ _) rfl hl.1 rfl (lv_room (Nat.le_of_ble_eq_true rfl)) dX5_makeEmpty_13 ⟨Nat.zero_le _, Nat.zero_le _⟩ (fun H locs hP hD hS => ?_)
  have eV1 : ([(ad o, .inr (5, [.ref (ad (o+1)), .ref (ad (o+4)), .ref (ad (o+8)), .ref (ad (o+12)), .ref (ad (o+16)), .ref (ad (o+20)), .ref (ad (o+25)), .ref (ad (o+28)), .int k, .int w, .int 0]))] : va_W) ++ ((wRes G ad (o+1) (resStart k r)) ++ (wGrp G ad (o+4) g0 ++ (wGrp G ad (o+8) g1 ++ (wGrp G ad (o+12) g2 ++ (wGrp G ad (o+16) g3 ++ (wPri G ad (o+20) pr ++ (wDis G ad (o+25) ds ++ (wCha G ad (o+28) ch)))))) : va_W)) = (wStr G ad o (k, w, 0, resStart k r, g0, g1, g2, g3, pr, ds, ch)) := by simp only [wStr, List.cons_append, List.append_assoc, List.nil_append, List.append_nil]
  rw [eV1] at hP hD
  refine lv_aload_n hx hb dX5_makeEmpty_16 rfl (lv_at hl 0 rfl) ?_
  refine va_get (D := G.1) (ci := 5) (v := .ref (ad (o+4))) (C := RX5) (T := TX5) (N := 11) hx hb hts hiX5 hown hY.1 hP 0 rfl rfl 1 (by decide) kf19 (fun _ h9 => h9) rfl dX5_makeEmpty_17 ?_
  refine lv_aload_n hx hb dX5_makeEmpty_20 rfl (lv_at hl 0 rfl) ?_
  refine va_get (D := G.1) (ci := 5) (v := .int k) (C := RX5) (T := TX5) (N := 11) hx hb hts hiX5 hown hY.1 hP 0 rfl rfl 8 (by decide) kf53 (fun _ h9 => h9) rfl dX5_makeEmpty_21 ?_
  have eW2 : (wStr G ad o (k, w, 0, resStart k r, g0, g1, g2, g3, pr, ds, ch)) = (((ad o, .inr (5, [.ref (ad (o+1)), .ref (ad (o+4)), .ref (ad (o+8)), .ref (ad (o+12)), .ref (ad (o+16)), .ref (ad (o+20)), .ref (ad (o+25)), .ref (ad (o+28)), .int k, .int w, .int 0]))) :: (wRes G ad (o+1) (resStart k r)) : va_W) ++ ((wGrp G ad (o+4) g0) ++ (wGrp G ad (o+8) g1 ++ (wGrp G ad (o+12) g2 ++ (wGrp G ad (o+16) g3 ++ (wPri G ad (o+20) pr ++ (wDis G ad (o+25) ds ++ (wCha G ad (o+28) ch))))) : va_W)) := by simp only [wStr, List.cons_append, List.append_assoc, List.nil_append, List.append_nil]
  rw [eW2] at hP hD
  refine wrV (((ad o, .inr (5, [.ref (ad (o+1)), .ref (ad (o+4)), .ref (ad (o+8)), .ref (ad (o+12)), .ref (ad (o+16)), .ref (ad (o+20)), .ref (ad (o+25)), .ref (ad (o+28)), .int k, .int w, .int 0]))) :: (wRes G ad (o+1) (resStart k r)) : va_W) (wGrp G ad (o+4) g0) (wGrp G ad (o+8) g1 ++ (wGrp G ad (o+12) g2 ++ (wGrp G ad (o+16) g3 ++ (wPri G ad (o+20) pr ++ (wDis G ad (o+25) ds ++ (wCha G ad (o+28) ch))))) : va_W) (wGrp G ad (o+4) (grpStart k g0)) (As := [.int k]) (rest := []) CF (k_X2_startAgain l G ad (o+4) g0 k) (cwV 1 hts gX5_makeEmpty_X2_startAgain rfl rfl rfl (by decide +kernel) ⟨Nat.le_of_ble_eq_true rfl, Nat.le_of_ble_eq_true rfl⟩) hP hD hS hA hY rfl rfl (fst_Grp _ _ _ _ _) rfl hl.1 rfl (lv_room (Nat.le_of_ble_eq_true rfl)) dX5_makeEmpty_24 ⟨Nat.zero_le _, Nat.zero_le _⟩ (fun H locs hP hD hS => ?_)
  have eV2 : (((ad o, .inr (5, [.ref (ad (o+1)), .ref (ad (o+4)), .ref (ad (o+8)), .ref (ad (o+12)), .ref (ad (o+16)), .ref (ad (o+20)), .ref (ad (o+25)), .ref (ad (o+28)), .int k, .int w, .int 0]))) :: (wRes G ad (o+1) (resStart k r)) : va_W) ++ ((wGrp G ad (o+4) (grpStart k g0)) ++ (wGrp G ad (o+8) g1 ++ (wGrp G ad (o+12) g2 ++ (wGrp G ad (o+16) g3 ++ (wPri G ad (o+20) pr ++ (wDis G ad (o+25) ds ++ (wCha G ad (o+28) ch))))) : va_W)) = (wStr G ad o (k, w, 0, resStart k r, grpStart k g0, g1, g2, g3, pr, ds, ch)) := by simp only [wStr, List.cons_append, List.append_assoc, List.nil_append, List.append_nil]
  rw [eV2] at hP hD
  refine lv_aload_n hx hb dX5_makeEmpty_27 rfl (lv_at hl 0 rfl) ?_
  refine va_get (D := G.1) (ci := 5) (v := .ref (ad (o+8))) (C := RX5) (T := TX5) (N := 11) hx hb hts hiX5 hown hY.1 hP 0 rfl rfl 2 (by decide) kf23 (fun _ h9 => h9) rfl dX5_makeEmpty_28 ?_
  refine lv_aload_n hx hb dX5_makeEmpty_31 rfl (lv_at hl 0 rfl) ?_
  refine va_get (D := G.1) (ci := 5) (v := .int k) (C := RX5) (T := TX5) (N := 11) hx hb hts hiX5 hown hY.1 hP 0 rfl rfl 8 (by decide) kf53 (fun _ h9 => h9) rfl dX5_makeEmpty_32 ?_
  have eW3 : (wStr G ad o (k, w, 0, resStart k r, grpStart k g0, g1, g2, g3, pr, ds, ch)) = (((ad o, .inr (5, [.ref (ad (o+1)), .ref (ad (o+4)), .ref (ad (o+8)), .ref (ad (o+12)), .ref (ad (o+16)), .ref (ad (o+20)), .ref (ad (o+25)), .ref (ad (o+28)), .int k, .int w, .int 0]))) :: (wRes G ad (o+1) (resStart k r) ++ (wGrp G ad (o+4) (grpStart k g0))) : va_W) ++ ((wGrp G ad (o+8) g1) ++ (wGrp G ad (o+12) g2 ++ (wGrp G ad (o+16) g3 ++ (wPri G ad (o+20) pr ++ (wDis G ad (o+25) ds ++ (wCha G ad (o+28) ch)))) : va_W)) := by simp only [wStr, List.cons_append, List.append_assoc, List.nil_append, List.append_nil]
  rw [eW3] at hP hD
  refine wrV (((ad o, .inr (5, [.ref (ad (o+1)), .ref (ad (o+4)), .ref (ad (o+8)), .ref (ad (o+12)), .ref (ad (o+16)), .ref (ad (o+20)), .ref (ad (o+25)), .ref (ad (o+28)), .int k, .int w, .int 0]))) :: (wRes G ad (o+1) (resStart k r) ++ (wGrp G ad (o+4) (grpStart k g0))) : va_W) (wGrp G ad (o+8) g1) (wGrp G ad (o+12) g2 ++ (wGrp G ad (o+16) g3 ++ (wPri G ad (o+20) pr ++ (wDis G ad (o+25) ds ++ (wCha G ad (o+28) ch)))) : va_W) (wGrp G ad (o+8) (grpStart k g1)) (As := [.int k]) (rest := []) CF (k_X2_startAgain l G ad (o+8) g1 k) (cwV 1 hts gX5_makeEmpty_X2_startAgain rfl rfl rfl (by decide +kernel) ⟨Nat.le_of_ble_eq_true rfl, Nat.le_of_ble_eq_true rfl⟩) hP hD hS hA hY rfl rfl (fst_Grp _ _ _ _ _) rfl hl.1 rfl (lv_room (Nat.le_of_ble_eq_true rfl)) dX5_makeEmpty_35 ⟨Nat.zero_le _, Nat.zero_le _⟩ (fun H locs hP hD hS => ?_)
  have eV3 : (((ad o, .inr (5, [.ref (ad (o+1)), .ref (ad (o+4)), .ref (ad (o+8)), .ref (ad (o+12)), .ref (ad (o+16)), .ref (ad (o+20)), .ref (ad (o+25)), .ref (ad (o+28)), .int k, .int w, .int 0]))) :: (wRes G ad (o+1) (resStart k r) ++ (wGrp G ad (o+4) (grpStart k g0))) : va_W) ++ ((wGrp G ad (o+8) (grpStart k g1)) ++ (wGrp G ad (o+12) g2 ++ (wGrp G ad (o+16) g3 ++ (wPri G ad (o+20) pr ++ (wDis G ad (o+25) ds ++ (wCha G ad (o+28) ch)))) : va_W)) = (wStr G ad o (k, w, 0, resStart k r, grpStart k g0, grpStart k g1, g2, g3, pr, ds, ch)) := by simp only [wStr, List.cons_append, List.append_assoc, List.nil_append, List.append_nil]
  rw [eV3] at hP hD
  refine lv_aload_n hx hb dX5_makeEmpty_38 rfl (lv_at hl 0 rfl) ?_
  refine va_get (D := G.1) (ci := 5) (v := .ref (ad (o+12))) (C := RX5) (T := TX5) (N := 11) hx hb hts hiX5 hown hY.1 hP 0 rfl rfl 3 (by decide) kf26 (fun _ h9 => h9) rfl dX5_makeEmpty_39 ?_
  refine lv_aload_n hx hb dX5_makeEmpty_42 rfl (lv_at hl 0 rfl) ?_
  refine va_get (D := G.1) (ci := 5) (v := .int k) (C := RX5) (T := TX5) (N := 11) hx hb hts hiX5 hown hY.1 hP 0 rfl rfl 8 (by decide) kf53 (fun _ h9 => h9) rfl dX5_makeEmpty_43 ?_
  have eW4 : (wStr G ad o (k, w, 0, resStart k r, grpStart k g0, grpStart k g1, g2, g3, pr, ds, ch)) = (((ad o, .inr (5, [.ref (ad (o+1)), .ref (ad (o+4)), .ref (ad (o+8)), .ref (ad (o+12)), .ref (ad (o+16)), .ref (ad (o+20)), .ref (ad (o+25)), .ref (ad (o+28)), .int k, .int w, .int 0]))) :: (wRes G ad (o+1) (resStart k r) ++ (wGrp G ad (o+4) (grpStart k g0) ++ (wGrp G ad (o+8) (grpStart k g1)))) : va_W) ++ ((wGrp G ad (o+12) g2) ++ (wGrp G ad (o+16) g3 ++ (wPri G ad (o+20) pr ++ (wDis G ad (o+25) ds ++ (wCha G ad (o+28) ch))) : va_W)) := by simp only [wStr, List.cons_append, List.append_assoc, List.nil_append, List.append_nil]
  rw [eW4] at hP hD
  refine wrV (((ad o, .inr (5, [.ref (ad (o+1)), .ref (ad (o+4)), .ref (ad (o+8)), .ref (ad (o+12)), .ref (ad (o+16)), .ref (ad (o+20)), .ref (ad (o+25)), .ref (ad (o+28)), .int k, .int w, .int 0]))) :: (wRes G ad (o+1) (resStart k r) ++ (wGrp G ad (o+4) (grpStart k g0) ++ (wGrp G ad (o+8) (grpStart k g1)))) : va_W) (wGrp G ad (o+12) g2) (wGrp G ad (o+16) g3 ++ (wPri G ad (o+20) pr ++ (wDis G ad (o+25) ds ++ (wCha G ad (o+28) ch))) : va_W) (wGrp G ad (o+12) (grpStart k g2)) (As := [.int k]) (rest := []) CF (k_X2_startAgain l G ad (o+12) g2 k) (cwV 1 hts gX5_makeEmpty_X2_startAgain rfl rfl rfl (by decide +kernel) ⟨Nat.le_of_ble_eq_true rfl, Nat.le_of_ble_eq_true rfl⟩) hP hD hS hA hY rfl rfl (fst_Grp _ _ _ _ _) rfl hl.1 rfl (lv_room (Nat.le_of_ble_eq_true rfl)) dX5_makeEmpty_46 ⟨Nat.zero_le _, Nat.zero_le _⟩ (fun H locs hP hD hS => ?_)
  have eV4 : (((ad o, .inr (5, [.ref (ad (o+1)), .ref (ad (o+4)), .ref (ad (o+8)), .ref (ad (o+12)), .ref (ad (o+16)), .ref (ad (o+20)), .ref (ad (o+25)), .ref (ad (o+28)), .int k, .int w, .int 0]))) :: (wRes G ad (o+1) (resStart k r) ++ (wGrp G ad (o+4) (grpStart k g0) ++ (wGrp G ad (o+8) (grpStart k g1)))) : va_W) ++ ((wGrp G ad (o+12) (grpStart k g2)) ++ (wGrp G ad (o+16) g3 ++ (wPri G ad (o+20) pr ++ (wDis G ad (o+25) ds ++ (wCha G ad (o+28) ch))) : va_W)) = (wStr G ad o (k, w, 0, resStart k r, grpStart k g0, grpStart k g1, grpStart k g2, g3, pr, ds, ch)) := by simp only [wStr, List.cons_append, List.append_assoc, List.nil_append, List.append_nil]
  rw [eV4] at hP hD
  refine lv_aload_n hx hb dX5_makeEmpty_49 rfl (lv_at hl 0 rfl) ?_
  refine va_get (D := G.1) (ci := 5) (v := .ref (ad (o+16))) (C := RX5) (T := TX5) (N := 11) hx hb hts hiX5 hown hY.1 hP 0 rfl rfl 4 (by decide) kf29 (fun _ h9 => h9) rfl dX5_makeEmpty_50 ?_
  refine lv_aload_n hx hb dX5_makeEmpty_53 rfl (lv_at hl 0 rfl) ?_
  refine va_get (D := G.1) (ci := 5) (v := .int k) (C := RX5) (T := TX5) (N := 11) hx hb hts hiX5 hown hY.1 hP 0 rfl rfl 8 (by decide) kf53 (fun _ h9 => h9) rfl dX5_makeEmpty_54 ?_
  have eW5 : (wStr G ad o (k, w, 0, resStart k r, grpStart k g0, grpStart k g1, grpStart k g2, g3, pr, ds, ch)) = (((ad o, .inr (5, [.ref (ad (o+1)), .ref (ad (o+4)), .ref (ad (o+8)), .ref (ad (o+12)), .ref (ad (o+16)), .ref (ad (o+20)), .ref (ad (o+25)), .ref (ad (o+28)), .int k, .int w, .int 0]))) :: (wRes G ad (o+1) (resStart k r) ++ (wGrp G ad (o+4) (grpStart k g0) ++ (wGrp G ad (o+8) (grpStart k g1) ++ (wGrp G ad (o+12) (grpStart k g2))))) : va_W) ++ ((wGrp G ad (o+16) g3) ++ (wPri G ad (o+20) pr ++ (wDis G ad (o+25) ds ++ (wCha G ad (o+28) ch)) : va_W)) := by simp only [wStr, List.cons_append, List.append_assoc, List.nil_append, List.append_nil]
  rw [eW5] at hP hD
  refine wrV (((ad o, .inr (5, [.ref (ad (o+1)), .ref (ad (o+4)), .ref (ad (o+8)), .ref (ad (o+12)), .ref (ad (o+16)), .ref (ad (o+20)), .ref (ad (o+25)), .ref (ad (o+28)), .int k, .int w, .int 0]))) :: (wRes G ad (o+1) (resStart k r) ++ (wGrp G ad (o+4) (grpStart k g0) ++ (wGrp G ad (o+8) (grpStart k g1) ++ (wGrp G ad (o+12) (grpStart k g2))))) : va_W) (wGrp G ad (o+16) g3) (wPri G ad (o+20) pr ++ (wDis G ad (o+25) ds ++ (wCha G ad (o+28) ch)) : va_W) (wGrp G ad (o+16) (grpStart k g3)) (As := [.int k]) (rest := []) CF (k_X2_startAgain l G ad (o+16) g3 k) (cwV 1 hts gX5_makeEmpty_X2_startAgain rfl rfl rfl (by decide +kernel) ⟨Nat.le_of_ble_eq_true rfl, Nat.le_of_ble_eq_true rfl⟩) hP hD hS hA hY rfl rfl (fst_Grp _ _ _ _ _) rfl hl.1 rfl (lv_room (Nat.le_of_ble_eq_true rfl)) dX5_makeEmpty_57 ⟨Nat.zero_le _, Nat.zero_le _⟩ (fun H locs hP hD hS => ?_)
  have eV5 : (((ad o, .inr (5, [.ref (ad (o+1)), .ref (ad (o+4)), .ref (ad (o+8)), .ref (ad (o+12)), .ref (ad (o+16)), .ref (ad (o+20)), .ref (ad (o+25)), .ref (ad (o+28)), .int k, .int w, .int 0]))) :: (wRes G ad (o+1) (resStart k r) ++ (wGrp G ad (o+4) (grpStart k g0) ++ (wGrp G ad (o+8) (grpStart k g1) ++ (wGrp G ad (o+12) (grpStart k g2))))) : va_W) ++ ((wGrp G ad (o+16) (grpStart k g3)) ++ (wPri G ad (o+20) pr ++ (wDis G ad (o+25) ds ++ (wCha G ad (o+28) ch)) : va_W)) = (wStr G ad o (k, w, 0, resStart k r, grpStart k g0, grpStart k g1, grpStart k g2, grpStart k g3, pr, ds, ch)) := by simp only [wStr, List.cons_append, List.append_assoc, List.nil_append, List.append_nil]
  rw [eV5] at hP hD
  refine lv_aload_n hx hb dX5_makeEmpty_60 rfl (lv_at hl 0 rfl) ?_
  refine va_get (D := G.1) (ci := 5) (v := .ref (ad (o+20))) (C := RX5) (T := TX5) (N := 11) hx hb hts hiX5 hown hY.1 hP 0 rfl rfl 5 (by decide) kf35 (fun _ h9 => h9) rfl dX5_makeEmpty_61 ?_
  refine lv_aload_n hx hb dX5_makeEmpty_64 rfl (lv_at hl 0 rfl) ?_
  refine va_get (D := G.1) (ci := 5) (v := .int k) (C := RX5) (T := TX5) (N := 11) hx hb hts hiX5 hown hY.1 hP 0 rfl rfl 8 (by decide) kf53 (fun _ h9 => h9) rfl dX5_makeEmpty_65 ?_
  have eW6 : (wStr G ad o (k, w, 0, resStart k r, grpStart k g0, grpStart k g1, grpStart k g2, grpStart k g3, pr, ds, ch)) = (((ad o, .inr (5, [.ref (ad (o+1)), .ref (ad (o+4)), .ref (ad (o+8)), .ref (ad (o+12)), .ref (ad (o+16)), .ref (ad (o+20)), .ref (ad (o+25)), .ref (ad (o+28)), .int k, .int w, .int 0]))) :: (wRes G ad (o+1) (resStart k r) ++ (wGrp G ad (o+4) (grpStart k g0) ++ (wGrp G ad (o+8) (grpStart k g1) ++ (wGrp G ad (o+12) (grpStart k g2) ++ (wGrp G ad (o+16) (grpStart k g3)))))) : va_W) ++ ((wPri G ad (o+20) pr) ++ (wDis G ad (o+25) ds ++ (wCha G ad (o+28) ch) : va_W)) := by simp only [wStr, List.cons_append, List.append_assoc, List.nil_append, List.append_nil]
  rw [eW6] at hP hD
  refine wrV (((ad o, .inr (5, [.ref (ad (o+1)), .ref (ad (o+4)), .ref (ad (o+8)), .ref (ad (o+12)), .ref (ad (o+16)), .ref (ad (o+20)), .ref (ad (o+25)), .ref (ad (o+28)), .int k, .int w, .int 0]))) :: (wRes G ad (o+1) (resStart k r) ++ (wGrp G ad (o+4) (grpStart k g0) ++ (wGrp G ad (o+8) (grpStart k g1) ++ (wGrp G ad (o+12) (grpStart k g2) ++ (wGrp G ad (o+16) (grpStart k g3)))))) : va_W) (wPri G ad (o+20) pr) (wDis G ad (o+25) ds ++ (wCha G ad (o+28) ch) : va_W) (wPri G ad (o+20) (priStart k pr)) (As := [.int k]) (rest := []) CF (k_X3_startAgain l G ad (o+20) pr k) (cwV 1 hts gX5_makeEmpty_X3_startAgain rfl rfl rfl (by decide +kernel) ⟨Nat.le_of_ble_eq_true rfl, Nat.le_of_ble_eq_true rfl⟩) hP hD hS hA hY rfl rfl (fst_Pri _ _ _ _ _) rfl hl.1 rfl (lv_room (Nat.le_of_ble_eq_true rfl)) dX5_makeEmpty_68 ⟨Nat.zero_le _, Nat.zero_le _⟩ (fun H locs hP hD hS => ?_)
  have eV6 : (((ad o, .inr (5, [.ref (ad (o+1)), .ref (ad (o+4)), .ref (ad (o+8)), .ref (ad (o+12)), .ref (ad (o+16)), .ref (ad (o+20)), .ref (ad (o+25)), .ref (ad (o+28)), .int k, .int w, .int 0]))) :: (wRes G ad (o+1) (resStart k r) ++ (wGrp G ad (o+4) (grpStart k g0) ++ (wGrp G ad (o+8) (grpStart k g1) ++ (wGrp G ad (o+12) (grpStart k g2) ++ (wGrp G ad (o+16) (grpStart k g3)))))) : va_W) ++ ((wPri G ad (o+20) (priStart k pr)) ++ (wDis G ad (o+25) ds ++ (wCha G ad (o+28) ch) : va_W)) = (wStr G ad o (k, w, 0, resStart k r, grpStart k g0, grpStart k g1, grpStart k g2, grpStart k g3, priStart k pr, ds, ch)) := by simp only [wStr, List.cons_append, List.append_assoc, List.nil_append, List.append_nil]
  rw [eV6] at hP hD
  refine lv_aload_n hx hb dX5_makeEmpty_71 rfl (lv_at hl 0 rfl) ?_
  refine va_get (D := G.1) (ci := 5) (v := .ref (ad (o+25))) (C := RX5) (T := TX5) (N := 11) hx hb hts hiX5 hown hY.1 hP 0 rfl rfl 6 (by decide) kf42 (fun _ h9 => h9) rfl dX5_makeEmpty_72 ?_
  refine lv_aload_n hx hb dX5_makeEmpty_75 rfl (lv_at hl 0 rfl) ?_
  refine va_get (D := G.1) (ci := 5) (v := .int k) (C := RX5) (T := TX5) (N := 11) hx hb hts hiX5 hown hY.1 hP 0 rfl rfl 8 (by decide) kf53 (fun _ h9 => h9) rfl dX5_makeEmpty_76 ?_
  have eW7 : (wStr G ad o (k, w, 0, resStart k r, grpStart k g0, grpStart k g1, grpStart k g2, grpStart k g3, priStart k pr, ds, ch)) = (((ad o, .inr (5, [.ref (ad (o+1)), .ref (ad (o+4)), .ref (ad (o+8)), .ref (ad (o+12)), .ref (ad (o+16)), .ref (ad (o+20)), .ref (ad (o+25)), .ref (ad (o+28)), .int k, .int w, .int 0]))) :: (wRes G ad (o+1) (resStart k r) ++ (wGrp G ad (o+4) (grpStart k g0) ++ (wGrp G ad (o+8) (grpStart k g1) ++ (wGrp G ad (o+12) (grpStart k g2) ++ (wGrp G ad (o+16) (grpStart k g3) ++ (wPri G ad (o+20) (priStart k pr))))))) : va_W) ++ ((wDis G ad (o+25) ds) ++ (wCha G ad (o+28) ch : va_W)) := by simp only [wStr, List.cons_append, List.append_assoc, List.nil_append, List.append_nil]
  rw [eW7] at hP hD
  refine wrV (((ad o, .inr (5, [.ref (ad (o+1)), .ref (ad (o+4)), .ref (ad (o+8)), .ref (ad (o+12)), .ref (ad (o+16)), .ref (ad (o+20)), .ref (ad (o+25)), .ref (ad (o+28)), .int k, .int w, .int 0]))) :: (wRes G ad (o+1) (resStart k r) ++ (wGrp G ad (o+4) (grpStart k g0) ++ (wGrp G ad (o+8) (grpStart k g1) ++ (wGrp G ad (o+12) (grpStart k g2) ++ (wGrp G ad (o+16) (grpStart k g3) ++ (wPri G ad (o+20) (priStart k pr))))))) : va_W) (wDis G ad (o+25) ds) (wCha G ad (o+28) ch : va_W) (wDis G ad (o+25) (disStart k ds)) (As := [.int k]) (rest := []) CF (k_X1_startAgain l G ad (o+25) ds k) (cwV 1 hts gX5_makeEmpty_X1_startAgain rfl rfl rfl (by decide +kernel) ⟨Nat.le_of_ble_eq_true rfl, Nat.le_of_ble_eq_true rfl⟩) hP hD hS hA hY rfl rfl (fst_Dis _ _ _ _ _) rfl hl.1 rfl (lv_room (Nat.le_of_ble_eq_true rfl)) dX5_makeEmpty_79 ⟨Nat.zero_le _, Nat.zero_le _⟩ (fun H locs hP hD hS => ?_)
  have eV7 : (((ad o, .inr (5, [.ref (ad (o+1)), .ref (ad (o+4)), .ref (ad (o+8)), .ref (ad (o+12)), .ref (ad (o+16)), .ref (ad (o+20)), .ref (ad (o+25)), .ref (ad (o+28)), .int k, .int w, .int 0]))) :: (wRes G ad (o+1) (resStart k r) ++ (wGrp G ad (o+4) (grpStart k g0) ++ (wGrp G ad (o+8) (grpStart k g1) ++ (wGrp G ad (o+12) (grpStart k g2) ++ (wGrp G ad (o+16) (grpStart k g3) ++ (wPri G ad (o+20) (priStart k pr))))))) : va_W) ++ ((wDis G ad (o+25) (disStart k ds)) ++ (wCha G ad (o+28) ch : va_W)) = (wStr G ad o (k, w, 0, resStart k r, grpStart k g0, grpStart k g1, grpStart k g2, grpStart k g3, priStart k pr, disStart k ds, ch)) := by simp only [wStr, List.cons_append, List.append_assoc, List.nil_append, List.append_nil]
  rw [eV7] at hP hD
  refine lv_aload_n hx hb dX5_makeEmpty_82 rfl (lv_at hl 0 rfl) ?_
  refine va_get (D := G.1) (ci := 5) (v := .ref (ad (o+28))) (C := RX5) (T := TX5) (N := 11) hx hb hts hiX5 hown hY.1 hP 0 rfl rfl 7 (by decide) kf49 (fun _ h9 => h9) rfl dX5_makeEmpty_83 ?_
  refine lv_aload_n hx hb dX5_makeEmpty_86 rfl (lv_at hl 0 rfl) ?_
  refine va_get (D := G.1) (ci := 5) (v := .int w) (C := RX5) (T := TX5) (N := 11) hx hb hts hiX5 hown hY.1 hP 0 rfl rfl 9 (by decide) kf57 (fun _ h9 => h9) rfl dX5_makeEmpty_87 ?_
  have eW8 : (wStr G ad o (k, w, 0, resStart k r, grpStart k g0, grpStart k g1, grpStart k g2, grpStart k g3, priStart k pr, disStart k ds, ch)) = (((ad o, .inr (5, [.ref (ad (o+1)), .ref (ad (o+4)), .ref (ad (o+8)), .ref (ad (o+12)), .ref (ad (o+16)), .ref (ad (o+20)), .ref (ad (o+25)), .ref (ad (o+28)), .int k, .int w, .int 0]))) :: (wRes G ad (o+1) (resStart k r) ++ (wGrp G ad (o+4) (grpStart k g0) ++ (wGrp G ad (o+8) (grpStart k g1) ++ (wGrp G ad (o+12) (grpStart k g2) ++ (wGrp G ad (o+16) (grpStart k g3) ++ (wPri G ad (o+20) (priStart k pr) ++ (wDis G ad (o+25) (disStart k ds)))))))) : va_W) ++ ((wCha G ad (o+28) ch) ++ ([] : va_W)) := by simp only [wStr, List.cons_append, List.append_assoc, List.nil_append, List.append_nil]
  rw [eW8] at hP hD
  refine wrV (((ad o, .inr (5, [.ref (ad (o+1)), .ref (ad (o+4)), .ref (ad (o+8)), .ref (ad (o+12)), .ref (ad (o+16)), .ref (ad (o+20)), .ref (ad (o+25)), .ref (ad (o+28)), .int k, .int w, .int 0]))) :: (wRes G ad (o+1) (resStart k r) ++ (wGrp G ad (o+4) (grpStart k g0) ++ (wGrp G ad (o+8) (grpStart k g1) ++ (wGrp G ad (o+12) (grpStart k g2) ++ (wGrp G ad (o+16) (grpStart k g3) ++ (wPri G ad (o+20) (priStart k pr) ++ (wDis G ad (o+25) (disStart k ds)))))))) : va_W) (wCha G ad (o+28) ch) ([] : va_W) (wCha G ad (o+28) (chaStart w ch)) (As := [.int w]) (rest := []) CF (k_X0_startAgain l G ad (o+28) ch w) (cwV 1 hts gX5_makeEmpty_X0_startAgain rfl rfl rfl (by decide +kernel) ⟨Nat.le_of_ble_eq_true rfl, Nat.le_of_ble_eq_true rfl⟩) hP hD hS hA hY rfl rfl (fst_Cha _ _ _ _ _) rfl hl.1 rfl (lv_room (Nat.le_of_ble_eq_true rfl)) dX5_makeEmpty_90 ⟨Nat.zero_le _, Nat.zero_le _⟩ (fun H locs hP hD hS => ?_)
  have eV8 : (((ad o, .inr (5, [.ref (ad (o+1)), .ref (ad (o+4)), .ref (ad (o+8)), .ref (ad (o+12)), .ref (ad (o+16)), .ref (ad (o+20)), .ref (ad (o+25)), .ref (ad (o+28)), .int k, .int w, .int 0]))) :: (wRes G ad (o+1) (resStart k r) ++ (wGrp G ad (o+4) (grpStart k g0) ++ (wGrp G ad (o+8) (grpStart k g1) ++ (wGrp G ad (o+12) (grpStart k g2) ++ (wGrp G ad (o+16) (grpStart k g3) ++ (wPri G ad (o+20) (priStart k pr) ++ (wDis G ad (o+25) (disStart k ds)))))))) : va_W) ++ ((wCha G ad (o+28) (chaStart w ch)) ++ ([] : va_W)) = (wStr G ad o (k, w, 0, resStart k r, grpStart k g0, grpStart k g1, grpStart k g2, grpStart k g3, priStart k pr, disStart k ds, chaStart w ch)) := by simp only [wStr, List.cons_append, List.append_assoc, List.nil_append, List.append_nil]
  rw [eV8] at hP hD
  exact wr_vret hx hb hr hlk hS hP (by first | with_reducible rfl | (simp only [strEmpty, sld_eq, ↓reduceIte]; done)) dX5_makeEmpty_93

set_option maxHeartbeats 4000000 in
set_option maxRecDepth 100000 in
theorem k_X5_startAgain (l : Launch) (G : GT) (ad : Nat → Nat) (o : Nat) (sg : StrT) (k2 w2 : Int32) : Wr l yX5_startAgain wsX5_startAgain { frames := 3, cells := 0, slots := 0, locals := 62 } G (wStr G ad o sg) (wStr G ad o (strStart k2 w2 sg)) [.ref (ad o), .int k2, .int w2] none := by
  intro sz
  obtain ⟨k, w, ta, r, g0, g1, g2, g3, pr, ds, ch⟩ := sg
  refine Met.ofW (cc := cX5_startAgain) (maxL := 3) (ret := none) (by decide) rfl ?_
  intro p e s m args below meth c s₁ B hml hv
  obtain ⟨rfl, hsz, hP, hY, hD0⟩ := hv
  subst hsz
  have hD := hD0.self (sz := s.heap.size)
  generalize hAe : va_A (wStr G ad o (k, w, ta, r, g0, g1, g2, g3, pr, ds, ch)) s.heap.size = A at hD ⊢
  have hA : ∀ q : Nat, s.heap.size ≤ q → A q := fun q h => by rw [← hAe]; exact Or.inr h
  have hS : va_S A s.heap s.heap [] := va_S.rf
  have hx := B.exec
  have hb := B.bytes
  have hr := B.returns
  have hts := atoms_spec (ws := wsX5_startAgain) B.pre
  have hown : s.vm.findClass RX5 = some m.cls := findClass_of_methodNamed B.named
  have hlk := B.notSynchronized
  have CF : CallFix p m c cX5_startAgain 3 s _ wsX5_startAgain RX5 := ⟨hx, hb, hml, hown, hts⟩
  have hiX5 : ∀ w ∈ wsX50, w ∈ wsX5_startAgain := fun w h => (List.mem_cons_of_mem _ (List.mem_append_left _ (List.mem_append_left _ (List.mem_append_left _ (List.mem_append_left _ (List.mem_append_left _ (List.mem_append_right _ h)))))))
  have kf53 := hts (.fieldLink RX5 53 "ReservoirReed$Stream" "size" "I") (List.mem_cons_of_mem _ (List.mem_append_left _ (List.mem_append_left _ (List.mem_append_left _ (List.mem_append_left _ (List.mem_append_left _ (List.mem_append_left _ (List.mem_append_left _ (List.mem_of_getElem? (i := 0) rfl)))))))))
  have kf57 := hts (.fieldLink RX5 57 "ReservoirReed$Stream" "window" "I") (List.mem_cons_of_mem _ (List.mem_append_left _ (List.mem_append_left _ (List.mem_append_left _ (List.mem_append_left _ (List.mem_append_left _ (List.mem_append_left _ (List.mem_append_left _ (List.mem_of_getElem? (i := 1) rfl)))))))))
  have hl := lv_entry ([.ref (ad o), .int k2, .int w2]) (n := 3) (Nat.le_of_ble_eq_true rfl)
  rw [lg_entry_eq]
  generalize (lg_sl ([.ref (ad o), .int k2, .int w2]) ++ List.replicate (3 - (lg_sl ([.ref (ad o), .int k2, .int w2])).length) Slot.unset).toArray = ls at hl ⊢
  have hl : lv_has ls 3 [(0, .ref (ad o)), (1, .int k2), (2, .int w2)] := hl
  refine lv_aload_n hx hb dX5_startAgain_0 rfl (lv_at hl 0 rfl) ?_
  refine lv_iload_n hx hb dX5_startAgain_1 rfl (lv_at hl 1 rfl) ?_
  refine va_put (D := G.1) (ci := 5) (v := .int k2) (ty := .int) (C := RX5) (T := TX5) (N := 11) hx hb hts hiX5 tyX5 tyX5_ok nmX5 hown hY.1 hP hD hS 0 rfl rfl 8 (by decide) kf53 (fun _ h9 => h9) rfl (by decide +kernel) rfl rfl (Nat.le_of_ble_eq_true rfl) dX5_startAgain_2 (fun H locs hP hD hS => ?_)
  have hP : va_P G.1 vwCl (wStr G ad o (k2, w, ta, r, g0, g1, g2, g3, pr, ds, ch)) H := hP
  have hD : va_D A (wStr G ad o (k2, w, ta, r, g0, g1, g2, g3, pr, ds, ch)) := hD
  refine lv_aload_n hx hb dX5_startAgain_5 rfl (lv_at hl 0 rfl) ?_
  refine lv_iload_n hx hb dX5_startAgain_6 rfl (lv_at hl 2 rfl) ?_
  refine va_put (D := G.1) (ci := 5) (v := .int w2) (ty := .int) (C := RX5) (T := TX5) (N := 11) hx hb hts hiX5 tyX5 tyX5_ok nmX5 hown hY.1 hP hD hS 0 rfl rfl 9 (by decide) kf57 (fun _ h9 => h9) rfl (by decide +kernel) rfl rfl (Nat.le_of_ble_eq_true rfl) dX5_startAgain_7 (fun H locs hP hD hS => ?_)
  have hP : va_P G.1 vwCl (wStr G ad o (k2, w2, ta, r, g0, g1, g2, g3, pr, ds, ch)) H := hP
  have hD : va_D A (wStr G ad o (k2, w2, ta, r, g0, g1, g2, g3, pr, ds, ch)) := hD
  refine lv_aload_n hx hb dX5_startAgain_10 rfl (lv_at hl 0 rfl) ?_
  refine wrV [] (wStr G ad o (k2, w2, ta, r, g0, g1, g2, g3, pr, ds, ch)) [] (wStr G ad o (strEmpty (k2, w2, ta, r, g0, g1, g2, g3, pr, ds, ch))) (As := []) (rest := []) CF (k_X5_makeEmpty l G ad o (k2, w2, ta, r, g0, g1, g2, g3, pr, ds, ch)) (cwV 0 hts gX5_startAgain_X5_makeEmpty rfl rfl rfl (by decide +kernel) ⟨Nat.le_of_ble_eq_true rfl, Nat.le_of_ble_eq_true rfl⟩) hP hD hS hA hY rfl rfl (fst_Str _ _ _ _ _) rfl hl.1 rfl (lv_room (Nat.le_of_ble_eq_true rfl)) dX5_startAgain_11 ⟨Nat.zero_le _, Nat.zero_le _⟩ (fun H locs hP hD hS => ?_)
  have hP : va_P G.1 vwCl (wStr G ad o (strEmpty (k2, w2, ta, r, g0, g1, g2, g3, pr, ds, ch))) H := hP
  have hD : va_D A (wStr G ad o (strEmpty (k2, w2, ta, r, g0, g1, g2, g3, pr, ds, ch))) := hD
  exact wr_vret hx hb hr hlk hS hP (by first | with_reducible rfl | (simp only [strStart, sld_eq, ↓reduceIte]; done)) dX5_startAgain_14

set_option maxHeartbeats 4000000 in
set_option maxRecDepth 100000 in
theorem k_X5_groupOf (l : Launch) (G : GT) (ad : Nat → Nat) (o : Nat) (sg : StrT) (gg : Int32) : Rd l yX5_groupOf wsX5_groupOf { frames := 0, cells := 0, slots := 0, locals := 0 } G (wStr G ad o sg) [.ref (ad o), .int gg] (.ref (grpRef ad o gg)) := by
  refine Met.ofW (cc := cX5_groupOf) (maxL := 2) (ret := (some (.object "ReservoirReed$Group"))) (by decide) rfl ?_
  intro p e s m args below meth c s₁ B hml hv
  obtain ⟨rfl, hP, hY⟩ := hv
  have hx := B.exec
  have hb := B.bytes
  have hr := B.returns
  have hts := atoms_spec (ws := wsX5_groupOf) B.pre
  have hown : s.vm.findClass RX5 = some m.cls := findClass_of_methodNamed B.named
  have hlk := B.notSynchronized
  have CF : CallFix p m c cX5_groupOf 2 s _ wsX5_groupOf RX5 := ⟨hx, hb, hml, hown, hts⟩
  have hiX5 : ∀ w ∈ wsX50, w ∈ wsX5_groupOf := fun w h => (List.mem_cons_of_mem _ (List.mem_append_right _ h))
  have kf19 := hts (.fieldLink RX5 19 "ReservoirReed$Stream" "group0" "LReservoirReed$Group;") (List.mem_cons_of_mem _ (List.mem_append_left _ (List.mem_of_getElem? (i := 0) rfl)))
  have kf23 := hts (.fieldLink RX5 23 "ReservoirReed$Stream" "group1" "LReservoirReed$Group;") (List.mem_cons_of_mem _ (List.mem_append_left _ (List.mem_of_getElem? (i := 1) rfl)))
  have kf26 := hts (.fieldLink RX5 26 "ReservoirReed$Stream" "group2" "LReservoirReed$Group;") (List.mem_cons_of_mem _ (List.mem_append_left _ (List.mem_of_getElem? (i := 2) rfl)))
  have kf29 := hts (.fieldLink RX5 29 "ReservoirReed$Stream" "group3" "LReservoirReed$Group;") (List.mem_cons_of_mem _ (List.mem_append_left _ (List.mem_of_getElem? (i := 3) rfl)))
  have hl := lv_entry ([.ref (ad o), .int gg]) (n := 2) (Nat.le_of_ble_eq_true rfl)
  rw [lg_entry_eq]
  generalize (lg_sl ([.ref (ad o), .int gg]) ++ List.replicate (2 - (lg_sl ([.ref (ad o), .int gg])).length) Slot.unset).toArray = ls at hl ⊢
  have hl : lv_has ls 2 [(0, .ref (ad o)), (1, .int gg)] := hl
  refine lv_iload_n hx hb dX5_groupOf_0 rfl (lv_at hl 1 rfl) ?_
  by_cases q1_1 : gg = 0
  · refine lv_tableIn (tgt := 28) hx hb dX5_groupOf_1 (by rw [q1_1]; decide) (by rw [q1_1]; decide) (off := 27) (by rw [q1_1]; rfl) (by decide) ?_
    refine lv_aload_n hx hb dX5_groupOf_28 rfl (lv_at hl 0 rfl) ?_
    refine va_get (D := G.1) (ci := 5) (v := .ref (ad (o+4))) (C := RX5) (T := TX5) (N := 11) hx hb hts hiX5 hown hY.1 hP 0 rfl rfl 1 (by decide) kf19 (fun _ h9 => h9) rfl dX5_groupOf_29 ?_
    exact rd_aret hx hb hr hlk (Or.inl ⟨_, rfl⟩) (by first | with_reducible rfl | (simp only [grpRef, sld_eq, eq_true q1_1, ↓reduceIte]; done)) dX5_groupOf_32
  · by_cases q1_2 : gg = 1
    · refine lv_tableIn (tgt := 33) hx hb dX5_groupOf_1 (by rw [q1_2]; decide) (by rw [q1_2]; decide) (off := 32) (by rw [q1_2]; rfl) (by decide) ?_
      refine lv_aload_n hx hb dX5_groupOf_33 rfl (lv_at hl 0 rfl) ?_
      refine va_get (D := G.1) (ci := 5) (v := .ref (ad (o+8))) (C := RX5) (T := TX5) (N := 11) hx hb hts hiX5 hown hY.1 hP 0 rfl rfl 2 (by decide) kf23 (fun _ h9 => h9) rfl dX5_groupOf_34 ?_
      exact rd_aret hx hb hr hlk (Or.inl ⟨_, rfl⟩) (by first | with_reducible rfl | (simp only [grpRef, sld_eq, q1_1, eq_true q1_2, ↓reduceIte]; done)) dX5_groupOf_37
    · by_cases q1_3 : gg = 2
      · refine lv_tableIn (tgt := 38) hx hb dX5_groupOf_1 (by rw [q1_3]; decide) (by rw [q1_3]; decide) (off := 37) (by rw [q1_3]; rfl) (by decide) ?_
        refine lv_aload_n hx hb dX5_groupOf_38 rfl (lv_at hl 0 rfl) ?_
        refine va_get (D := G.1) (ci := 5) (v := .ref (ad (o+12))) (C := RX5) (T := TX5) (N := 11) hx hb hts hiX5 hown hY.1 hP 0 rfl rfl 3 (by decide) kf26 (fun _ h9 => h9) rfl dX5_groupOf_39 ?_
        exact rd_aret hx hb hr hlk (Or.inl ⟨_, rfl⟩) (by first | with_reducible rfl | (simp only [grpRef, sld_eq, q1_1, q1_2, eq_true q1_3, ↓reduceIte]; done)) dX5_groupOf_42
      · refine lv_tableOut (tgt := 43) hx hb dX5_groupOf_1 (tb3 q1_1 q1_2 q1_3) (by decide) ?_
        refine lv_aload_n hx hb dX5_groupOf_43 rfl (lv_at hl 0 rfl) ?_
        refine va_get (D := G.1) (ci := 5) (v := .ref (ad (o+16))) (C := RX5) (T := TX5) (N := 11) hx hb hts hiX5 hown hY.1 hP 0 rfl rfl 4 (by decide) kf29 (fun _ h9 => h9) rfl dX5_groupOf_44 ?_
        exact rd_aret hx hb hr hlk (Or.inl ⟨_, rfl⟩) (by first | with_reducible rfl | (simp only [grpRef, sld_eq, q1_1, q1_2, q1_3, ↓reduceIte]; done)) dX5_groupOf_47
