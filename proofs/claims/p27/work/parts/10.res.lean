set_option maxHeartbeats 4000000 in
set_option maxRecDepth 100000 in
theorem k_X4_startAgain (l : Launch) (G : GT) (ad : Nat → Nat) (o : Nat) (r : ResT) (k2 : Int32) : Wr l yX4_startAgain wsX4_startAgain { frames := 0, cells := 0, slots := 0, locals := 0 } G (wRes G ad o r) (wRes G ad o (resStart k2 r)) [.ref (ad o), .int k2] none := by
  intro sz
  obtain ⟨k, gv, fa, ha⟩ := r
  refine Met.ofW (cc := cX4_startAgain) (maxL := 2) (ret := none) (by decide) rfl ?_
  intro p e s m args below meth c s₁ B hml hv
  obtain ⟨rfl, hsz, hP, hY, hD0⟩ := hv
  subst hsz
  have hD := hD0.self (sz := s.heap.size)
  generalize hAe : va_A (wRes G ad o (k, gv, fa, ha)) s.heap.size = A at hD ⊢
  have hA : ∀ q : Nat, s.heap.size ≤ q → A q := fun q h => by rw [← hAe]; exact Or.inr h
  have hS : va_S A s.heap s.heap [] := va_S.rf
  have hx := B.exec
  have hb := B.bytes
  have hr := B.returns
  have hts := atoms_spec (ws := wsX4_startAgain) B.pre
  have hown : s.vm.findClass RX4 = some m.cls := findClass_of_methodNamed B.named
  have hlk := B.notSynchronized
  have CF : CallFix p m c cX4_startAgain 2 s _ wsX4_startAgain RX4 := ⟨hx, hb, hml, hown, hts⟩
  have hiX4 : ∀ w ∈ wsX40, w ∈ wsX4_startAgain := fun w h => (List.mem_cons_of_mem _ (List.mem_append_right _ h))
  have kf18 := hts (.fieldLink RX4 18 "ReservoirReed$Reservoir" "size" "I") (List.mem_cons_of_mem _ (List.mem_append_left _ (List.mem_of_getElem? (i := 0) rfl)))
  have kf22 := hts (.fieldLink RX4 22 "ReservoirReed$Reservoir" "given" "I") (List.mem_cons_of_mem _ (List.mem_append_left _ (List.mem_of_getElem? (i := 1) rfl)))
  have hl := lv_entry ([.ref (ad o), .int k2]) (n := 2) (Nat.le_of_ble_eq_true rfl)
  rw [lg_entry_eq]
  generalize (lg_sl ([.ref (ad o), .int k2]) ++ List.replicate (2 - (lg_sl ([.ref (ad o), .int k2])).length) Slot.unset).toArray = ls at hl ⊢
  have hl : lv_has ls 2 [(0, .ref (ad o)), (1, .int k2)] := hl
  refine lv_aload_n hx hb dX4_startAgain_0 rfl (lv_at hl 0 rfl) ?_
  refine lv_iload_n hx hb dX4_startAgain_1 rfl (lv_at hl 1 rfl) ?_
  refine va_put (D := G.1) (ci := 4) (v := .int k2) (ty := .int) (C := RX4) (T := TX4) (N := 4) hx hb hts hiX4 tyX4 tyX4_ok nmX4 hown hY.1 hP hD hS 0 rfl rfl 2 (by decide) kf18 (fun _ h9 => h9) rfl (by decide +kernel) rfl rfl (Nat.le_of_ble_eq_true rfl) dX4_startAgain_2 (fun H locs hP hD hS => ?_)
  have hP : va_P G.1 vwCl (wRes G ad o (k2, gv, fa, ha)) H := hP
  have hD : va_D A (wRes G ad o (k2, gv, fa, ha)) := hD
  refine lv_aload_n hx hb dX4_startAgain_5 rfl (lv_at hl 0 rfl) ?_
  refine lv_iconst (v := 0) hx hb dX4_startAgain_6 (by decide) ?_
  refine va_put (D := G.1) (ci := 4) (v := .int 0) (ty := .int) (C := RX4) (T := TX4) (N := 4) hx hb hts hiX4 tyX4 tyX4_ok nmX4 hown hY.1 hP hD hS 0 rfl rfl 3 (by decide) kf22 (fun _ h9 => h9) rfl (by decide +kernel) rfl rfl (Nat.le_of_ble_eq_true rfl) dX4_startAgain_7 (fun H locs hP hD hS => ?_)
  have hP : va_P G.1 vwCl (wRes G ad o (k2, 0, fa, ha)) H := hP
  have hD : va_D A (wRes G ad o (k2, 0, fa, ha)) := hD
  exact wr_vret hx hb hr hlk hS hP (by first | with_reducible rfl | (simp only [resStart, sld_eq, ↓reduceIte]; done)) dX4_startAgain_10

set_option maxHeartbeats 4000000 in
set_option maxRecDepth 100000 in
theorem k_X4_give (l : Launch) (G : GT) (ad : Nat → Nat) (o : Nat) (r : ResT) (it po di : Int32) : Wr l yX4_give wsX4_give { frames := 1, cells := 0, slots := 0, locals := 22 } G (wRes G ad o r) (wRes G ad o (resGive r it po di)) [.ref (ad o), .int it, .int po, .int di] none := by
  intro sz
  obtain ⟨k, gv, fa, ha⟩ := r
  refine Met.ofW (cc := cX4_give) (maxL := 5) (ret := none) (by decide) rfl ?_
  intro p e s m args below meth c s₁ B hml hv
  obtain ⟨rfl, hsz, hP, hY, hD0⟩ := hv
  subst hsz
  have hD := hD0.self (sz := s.heap.size)
  generalize hAe : va_A (wRes G ad o (k, gv, fa, ha)) s.heap.size = A at hD ⊢
  have hA : ∀ q : Nat, s.heap.size ≤ q → A q := fun q h => by rw [← hAe]; exact Or.inr h
  have hS : va_S A s.heap s.heap [] := va_S.rf
  have hx := B.exec
  have hb := B.bytes
  have hr := B.returns
  have hts := atoms_spec (ws := wsX4_give) B.pre
  have hown : s.vm.findClass RX4 = some m.cls := findClass_of_methodNamed B.named
  have hlk := B.notSynchronized
  have CF : CallFix p m c cX4_give 5 s _ wsX4_give RX4 := ⟨hx, hb, hml, hown, hts⟩
  have hiX4 : ∀ w ∈ wsX40, w ∈ wsX4_give := fun w h => (List.mem_cons_of_mem _ (List.mem_append_right _ h))
  have kf22 := hts (.fieldLink RX4 22 "ReservoirReed$Reservoir" "given" "I") (List.mem_cons_of_mem _ (List.mem_append_left _ (List.mem_of_getElem? (i := 0) rfl)))
  have kf18 := hts (.fieldLink RX4 18 "ReservoirReed$Reservoir" "size" "I") (List.mem_cons_of_mem _ (List.mem_append_left _ (List.mem_of_getElem? (i := 1) rfl)))
  have knRX6 := hts (.initialized RX6) (List.mem_cons_of_mem _ (List.mem_append_left _ (List.mem_of_getElem? (i := 5) rfl)))
  have ks_X6_remainder := hts (.static yX6_remainder) (List.mem_cons_of_mem _ (List.mem_append_left _ (List.mem_of_getElem? (i := 4) rfl)))
  have kf9 := hts (.fieldLink RX4 9 "ReservoirReed$Reservoir" "items" "[I") (List.mem_cons_of_mem _ (List.mem_append_left _ (List.mem_of_getElem? (i := 2) rfl)))
  have ks_X6_put := hts (.static yX6_put) (List.mem_cons_of_mem _ (List.mem_append_left _ (List.mem_of_getElem? (i := 7) rfl)))
  have kf15 := hts (.fieldLink RX4 15 "ReservoirReed$Reservoir" "positions" "[I") (List.mem_cons_of_mem _ (List.mem_append_left _ (List.mem_of_getElem? (i := 3) rfl)))
  have hl := lv_entry ([.ref (ad o), .int it, .int po, .int di]) (n := 5) (Nat.le_of_ble_eq_true rfl)
  rw [lg_entry_eq]
  generalize (lg_sl ([.ref (ad o), .int it, .int po, .int di]) ++ List.replicate (5 - (lg_sl ([.ref (ad o), .int it, .int po, .int di])).length) Slot.unset).toArray = ls at hl ⊢
  have hl : lv_has ls 5 [(0, .ref (ad o)), (1, .int it), (2, .int po), (3, .int di)] := hl
  refine lv_aload_n hx hb dX4_give_0 rfl (lv_at hl 0 rfl) ?_
  refine lv_dup hx hb dX4_give_1 rfl ?_
  refine va_get (D := G.1) (ci := 4) (v := .int gv) (C := RX4) (T := TX4) (N := 4) hx hb hts hiX4 hown hY.1 hP 0 rfl rfl 3 (by decide) kf22 (fun _ h9 => h9) rfl dX4_give_2 ?_
  refine lv_iconst (v := 1) hx hb dX4_give_5 (by decide) ?_
  refine lv_iadd hx hb dX4_give_6 ?_
  refine va_put (D := G.1) (ci := 4) (v := .int (gv + 1)) (ty := .int) (C := RX4) (T := TX4) (N := 4) hx hb hts hiX4 tyX4 tyX4_ok nmX4 hown hY.1 hP hD hS 0 rfl rfl 3 (by decide) kf22 (fun _ h9 => h9) rfl (by decide +kernel) rfl rfl (Nat.le_of_ble_eq_true rfl) dX4_give_7 (fun H locs hP hD hS => ?_)
  have hP : va_P G.1 vwCl (wRes G ad o (k, gv + 1, fa, ha)) H := hP
  have hD : va_D A (wRes G ad o (k, gv + 1, fa, ha)) := hD
  refine lv_aload_n hx hb dX4_give_10 rfl (lv_at hl 0 rfl) ?_
  refine va_get (D := G.1) (ci := 4) (v := .int (gv + 1)) (C := RX4) (T := TX4) (N := 4) hx hb hts hiX4 hown hY.1 hP 0 rfl rfl 3 (by decide) kf22 (fun _ h9 => h9) rfl dX4_give_11 ?_
  refine lv_aload_n hx hb dX4_give_14 rfl (lv_at hl 0 rfl) ?_
  refine va_get (D := G.1) (ci := 4) (v := .int k) (C := RX4) (T := TX4) (N := 4) hx hb hts hiX4 hown hY.1 hP 0 rfl rfl 2 (by decide) kf18 (fun _ h9 => h9) rfl dX4_give_15 ?_
  refine lv_icmp_gt (tgt := 30) hx hb dX4_give_18 (by decide) (fun h18_1 => ?_) (fun h18_1 => ?_)
  · refine lv_iload_n hx hb dX4_give_30 rfl (lv_at hl 3 rfl) ?_
    refine lv_aload_n hx hb dX4_give_31 rfl (lv_at hl 0 rfl) ?_
    refine va_get (D := G.1) (ci := 4) (v := .int (gv + 1)) (C := RX4) (T := TX4) (N := 4) hx hb hts hiX4 hown hY.1 hP 0 rfl rfl 3 (by decide) kf22 (fun _ h9 => h9) rfl dX4_give_32 ?_
    refine rdSN (w0 := ([] : va_W)) (As := [.int di, .int (gv + 1)]) (rest := []) CF (k_X6_remainder l G di (gv + 1)) ⟨va_cnB 2 hts gX4_give_X6_remainder_n25 rfl rfl rfl (hY.2.1 (.methodLinkNest RX4 25 yX6_remainder RX6) (List.mem_of_getElem? (i := 32) rfl)) knRX6 (by decide +kernel) ⟨Nat.le_of_ble_eq_true rfl, Nat.le_of_ble_eq_true rfl⟩, ks_X6_remainder, trivial⟩ va_P_nil hY rfl hl.1 rfl (lv_room (Nat.le_of_ble_eq_true rfl)) dX4_give_35 ⟨Nat.zero_le _, Nat.zero_le _⟩ ?_
    refine lv_istore (lv' := [(4, .int (rem_ di (gv + 1))), (0, .ref (ad o)), (1, .int it), (2, .int po), (3, .int di)]) hx hb dX4_give_38 hl (by decide) rfl (fun ls hl => ?_)
    refine lv_iload hx hb dX4_give_40 (lv_at hl 0 rfl) ?_
    refine lv_aload_n hx hb dX4_give_42 rfl (lv_at hl 1 rfl) ?_
    refine va_get (D := G.1) (ci := 4) (v := .int k) (C := RX4) (T := TX4) (N := 4) hx hb hts hiX4 hown hY.1 hP 0 rfl rfl 2 (by decide) kf18 (fun _ h9 => h9) rfl dX4_give_43 ?_
    refine lv_icmp_ge (tgt := 69) hx hb dX4_give_46 (by decide) (fun h46_2 => ?_) (fun h46_2 => ?_)
    · exact wr_vret hx hb hr hlk hS hP (by first | with_reducible rfl | (simp only [resGive, sld_eq, h18_1, h46_2, ↓reduceIte]; done)) dX4_give_69
    · refine lv_aload_n hx hb dX4_give_49 rfl (lv_at hl 1 rfl) ?_
      refine va_get (D := G.1) (ci := 4) (v := .ref (ad (o+1))) (C := RX4) (T := TX4) (N := 4) hx hb hts hiX4 hown hY.1 hP 0 rfl rfl 0 (by decide) kf9 (fun _ h9 => h9) rfl dX4_give_50 ?_
      refine lv_iload hx hb dX4_give_53 (lv_at hl 0 rfl) ?_
      refine lv_iload_n hx hb dX4_give_55 rfl (lv_at hl 2 rfl) ?_
      refine wrSN (List.take 1 (wRes G ad o (k, gv + 1, fa, ha))) [(ad (o+1), .inl (G.2.1, 16, .inl fa))] (List.drop 2 (wRes G ad o (k, gv + 1, fa, ha))) [(ad (o+1), .inl (G.2.1, 16, .inl (put_ 16 fa (rem_ di (gv + 1)) it)))] (As := [.ref (ad (o+1)), .int (rem_ di (gv + 1)), .int it]) (rest := []) CF (k_X6_put l G 16 (ad (o+1)) fa (rem_ di (gv + 1)) it (by decide)) ⟨va_cnB 3 hts gX4_give_X6_put_n29 rfl rfl rfl (hY.2.1 (.methodLinkNest RX4 29 yX6_put RX6) (List.mem_of_getElem? (i := 33) rfl)) knRX6 (by decide +kernel) ⟨Nat.le_of_ble_eq_true rfl, Nat.le_of_ble_eq_true rfl⟩, ks_X6_put, trivial⟩ hP hD hS hA hY (fst_arr _ _ _) rfl hl.1 rfl (lv_room (Nat.le_of_ble_eq_true rfl)) dX4_give_56 ⟨Nat.zero_le _, Nat.zero_le _⟩ (fun H locs hP hD hS => ?_)
      have hP : va_P G.1 vwCl (wRes G ad o (k, gv + 1, put_ 16 fa (rem_ di (gv + 1)) it, ha)) H := hP
      have hD : va_D A (wRes G ad o (k, gv + 1, put_ 16 fa (rem_ di (gv + 1)) it, ha)) := hD
      refine lv_aload_n hx hb dX4_give_59 rfl (lv_at hl 1 rfl) ?_
      refine va_get (D := G.1) (ci := 4) (v := .ref (ad (o+2))) (C := RX4) (T := TX4) (N := 4) hx hb hts hiX4 hown hY.1 hP 0 rfl rfl 1 (by decide) kf15 (fun _ h9 => h9) rfl dX4_give_60 ?_
      refine lv_iload hx hb dX4_give_63 (lv_at hl 0 rfl) ?_
      refine lv_iload_n hx hb dX4_give_65 rfl (lv_at hl 3 rfl) ?_
      refine wrSN (List.take 2 (wRes G ad o (k, gv + 1, put_ 16 fa (rem_ di (gv + 1)) it, ha))) [(ad (o+2), .inl (G.2.1, 16, .inl ha))] [] [(ad (o+2), .inl (G.2.1, 16, .inl (put_ 16 ha (rem_ di (gv + 1)) po)))] (As := [.ref (ad (o+2)), .int (rem_ di (gv + 1)), .int po]) (rest := []) CF (k_X6_put l G 16 (ad (o+2)) ha (rem_ di (gv + 1)) po (by decide)) ⟨va_cnB 3 hts gX4_give_X6_put_n29 rfl rfl rfl (hY.2.1 (.methodLinkNest RX4 29 yX6_put RX6) (List.mem_of_getElem? (i := 33) rfl)) knRX6 (by decide +kernel) ⟨Nat.le_of_ble_eq_true rfl, Nat.le_of_ble_eq_true rfl⟩, ks_X6_put, trivial⟩ hP hD hS hA hY (fst_arr _ _ _) rfl hl.1 rfl (lv_room (Nat.le_of_ble_eq_true rfl)) dX4_give_66 ⟨Nat.zero_le _, Nat.zero_le _⟩ (fun H locs hP hD hS => ?_)
      have hP : va_P G.1 vwCl (wRes G ad o (k, gv + 1, put_ 16 fa (rem_ di (gv + 1)) it, put_ 16 ha (rem_ di (gv + 1)) po)) H := hP
      have hD : va_D A (wRes G ad o (k, gv + 1, put_ 16 fa (rem_ di (gv + 1)) it, put_ 16 ha (rem_ di (gv + 1)) po)) := hD
      exact wr_vret hx hb hr hlk hS hP (by first | with_reducible rfl | (simp only [resGive, sld_eq, h18_1, h46_2, ↓reduceIte]; done)) dX4_give_69
  · refine lv_aload_n hx hb dX4_give_21 rfl (lv_at hl 0 rfl) ?_
    refine va_get (D := G.1) (ci := 4) (v := .int (gv + 1)) (C := RX4) (T := TX4) (N := 4) hx hb hts hiX4 hown hY.1 hP 0 rfl rfl 3 (by decide) kf22 (fun _ h9 => h9) rfl dX4_give_22 ?_
    refine lv_iconst (v := 1) hx hb dX4_give_25 (by decide) ?_
    refine lv_isub hx hb dX4_give_26 ?_
    refine lv_goto (tgt := 38) hx hb dX4_give_27 (by decide) ?_
    refine lv_istore (lv' := [(4, .int ((gv + 1) - 1)), (0, .ref (ad o)), (1, .int it), (2, .int po), (3, .int di)]) hx hb dX4_give_38 hl (by decide) rfl (fun ls hl => ?_)
    refine lv_iload hx hb dX4_give_40 (lv_at hl 0 rfl) ?_
    refine lv_aload_n hx hb dX4_give_42 rfl (lv_at hl 1 rfl) ?_
    refine va_get (D := G.1) (ci := 4) (v := .int k) (C := RX4) (T := TX4) (N := 4) hx hb hts hiX4 hown hY.1 hP 0 rfl rfl 2 (by decide) kf18 (fun _ h9 => h9) rfl dX4_give_43 ?_
    refine lv_icmp_ge (tgt := 69) hx hb dX4_give_46 (by decide) (fun h46_3 => ?_) (fun h46_3 => ?_)
    · exact wr_vret hx hb hr hlk hS hP (by first | with_reducible rfl | (simp only [resGive, sld_eq, h18_1, h46_3, ↓reduceIte]; done)) dX4_give_69
    · refine lv_aload_n hx hb dX4_give_49 rfl (lv_at hl 1 rfl) ?_
      refine va_get (D := G.1) (ci := 4) (v := .ref (ad (o+1))) (C := RX4) (T := TX4) (N := 4) hx hb hts hiX4 hown hY.1 hP 0 rfl rfl 0 (by decide) kf9 (fun _ h9 => h9) rfl dX4_give_50 ?_
      refine lv_iload hx hb dX4_give_53 (lv_at hl 0 rfl) ?_
      refine lv_iload_n hx hb dX4_give_55 rfl (lv_at hl 2 rfl) ?_
      refine wrSN (List.take 1 (wRes G ad o (k, gv + 1, fa, ha))) [(ad (o+1), .inl (G.2.1, 16, .inl fa))] (List.drop 2 (wRes G ad o (k, gv + 1, fa, ha))) [(ad (o+1), .inl (G.2.1, 16, .inl (put_ 16 fa ((gv + 1) - 1) it)))] (As := [.ref (ad (o+1)), .int ((gv + 1) - 1), .int it]) (rest := []) CF (k_X6_put l G 16 (ad (o+1)) fa ((gv + 1) - 1) it (by decide)) ⟨va_cnB 3 hts gX4_give_X6_put_n29 rfl rfl rfl (hY.2.1 (.methodLinkNest RX4 29 yX6_put RX6) (List.mem_of_getElem? (i := 33) rfl)) knRX6 (by decide +kernel) ⟨Nat.le_of_ble_eq_true rfl, Nat.le_of_ble_eq_true rfl⟩, ks_X6_put, trivial⟩ hP hD hS hA hY (fst_arr _ _ _) rfl hl.1 rfl (lv_room (Nat.le_of_ble_eq_true rfl)) dX4_give_56 ⟨Nat.zero_le _, Nat.zero_le _⟩ (fun H locs hP hD hS => ?_)
      have hP : va_P G.1 vwCl (wRes G ad o (k, gv + 1, put_ 16 fa ((gv + 1) - 1) it, ha)) H := hP
      have hD : va_D A (wRes G ad o (k, gv + 1, put_ 16 fa ((gv + 1) - 1) it, ha)) := hD
      refine lv_aload_n hx hb dX4_give_59 rfl (lv_at hl 1 rfl) ?_
      refine va_get (D := G.1) (ci := 4) (v := .ref (ad (o+2))) (C := RX4) (T := TX4) (N := 4) hx hb hts hiX4 hown hY.1 hP 0 rfl rfl 1 (by decide) kf15 (fun _ h9 => h9) rfl dX4_give_60 ?_
      refine lv_iload hx hb dX4_give_63 (lv_at hl 0 rfl) ?_
      refine lv_iload_n hx hb dX4_give_65 rfl (lv_at hl 3 rfl) ?_
      refine wrSN (List.take 2 (wRes G ad o (k, gv + 1, put_ 16 fa ((gv + 1) - 1) it, ha))) [(ad (o+2), .inl (G.2.1, 16, .inl ha))] [] [(ad (o+2), .inl (G.2.1, 16, .inl (put_ 16 ha ((gv + 1) - 1) po)))] (As := [.ref (ad (o+2)), .int ((gv + 1) - 1), .int po]) (rest := []) CF (k_X6_put l G 16 (ad (o+2)) ha ((gv + 1) - 1) po (by decide)) ⟨va_cnB 3 hts gX4_give_X6_put_n29 rfl rfl rfl (hY.2.1 (.methodLinkNest RX4 29 yX6_put RX6) (List.mem_of_getElem? (i := 33) rfl)) knRX6 (by decide +kernel) ⟨Nat.le_of_ble_eq_true rfl, Nat.le_of_ble_eq_true rfl⟩, ks_X6_put, trivial⟩ hP hD hS hA hY (fst_arr _ _ _) rfl hl.1 rfl (lv_room (Nat.le_of_ble_eq_true rfl)) dX4_give_66 ⟨Nat.zero_le _, Nat.zero_le _⟩ (fun H locs hP hD hS => ?_)
      have hP : va_P G.1 vwCl (wRes G ad o (k, gv + 1, put_ 16 fa ((gv + 1) - 1) it, put_ 16 ha ((gv + 1) - 1) po)) H := hP
      have hD : va_D A (wRes G ad o (k, gv + 1, put_ 16 fa ((gv + 1) - 1) it, put_ 16 ha ((gv + 1) - 1) po)) := hD
      exact wr_vret hx hb hr hlk hS hP (by first | with_reducible rfl | (simp only [resGive, sld_eq, h18_1, h46_3, ↓reduceIte]; done)) dX4_give_69

set_option maxHeartbeats 4000000 in
set_option maxRecDepth 100000 in
theorem k_X4_filled (l : Launch) (G : GT) (ad : Nat → Nat) (o : Nat) (r : ResT) : Rd l yX4_filled wsX4_filled { frames := 2, cells := 0, slots := 0, locals := 30 } G (wRes G ad o r) [.ref (ad o)] (.int (resFilled r)) := by
  refine Met.ofW (cc := cX4_filled) (maxL := 1) (ret := (some .int)) (by decide) rfl ?_
  intro p e s m args below meth c s₁ B hml hv
  obtain ⟨rfl, hP, hY⟩ := hv
  have hx := B.exec
  have hb := B.bytes
  have hr := B.returns
  have hts := atoms_spec (ws := wsX4_filled) B.pre
  have hown : s.vm.findClass RX4 = some m.cls := findClass_of_methodNamed B.named
  have hlk := B.notSynchronized
  have CF : CallFix p m c cX4_filled 1 s _ wsX4_filled RX4 := ⟨hx, hb, hml, hown, hts⟩
  have hiX4 : ∀ w ∈ wsX40, w ∈ wsX4_filled := fun w h => (List.mem_cons_of_mem _ (List.mem_append_right _ h))
  have kf22 := hts (.fieldLink RX4 22 "ReservoirReed$Reservoir" "given" "I") (List.mem_cons_of_mem _ (List.mem_append_left _ (List.mem_of_getElem? (i := 0) rfl)))
  have kf18 := hts (.fieldLink RX4 18 "ReservoirReed$Reservoir" "size" "I") (List.mem_cons_of_mem _ (List.mem_append_left _ (List.mem_of_getElem? (i := 1) rfl)))
  have km1 := hts (.methodLink RX4 33 Lib.Math.min.name) (List.mem_cons_of_mem _ (List.mem_append_left _ (List.mem_of_getElem? (i := 2) rfl)))
  have km2 := hts (.static Lib.Math.min.name) (List.mem_cons_of_mem _ (List.mem_append_left _ (List.mem_of_getElem? (i := 3) rfl)))
  have km3 := hts (.initialized "java/lang/Math") (List.mem_cons_of_mem _ (List.mem_append_left _ (List.mem_of_getElem? (i := 4) rfl)))
  have km4 := hts (.code Lib.Math.min.name Lib.Math.min.code 2 (some .int)) (List.mem_cons_of_mem _ (List.mem_append_left _ (List.mem_of_getElem? (i := 5) rfl)))
  have hl := lv_entry ([.ref (ad o)]) (n := 1) (Nat.le_of_ble_eq_true rfl)
  rw [lg_entry_eq]
  generalize (lg_sl ([.ref (ad o)]) ++ List.replicate (1 - (lg_sl ([.ref (ad o)])).length) Slot.unset).toArray = ls at hl ⊢
  have hl : lv_has ls 1 [(0, .ref (ad o))] := hl
  refine lv_aload_n hx hb dX4_filled_0 rfl (lv_at hl 0 rfl) ?_
  refine va_get (D := G.1) (ci := 4) (v := .int r.2.1) (C := RX4) (T := TX4) (N := 4) hx hb hts hiX4 hown hY.1 hP 0 rfl rfl 3 (by decide) kf22 (fun _ h9 => h9) rfl dX4_filled_1 ?_
  refine lv_aload_n hx hb dX4_filled_4 rfl (lv_at hl 0 rfl) ?_
  refine va_get (D := G.1) (ci := 4) (v := .int r.1) (C := RX4) (T := TX4) (N := 4) hx hb hts hiX4 hown hY.1 hP 0 rfl rfl 2 (by decide) kf18 (fun _ h9 => h9) rfl dX4_filled_5 ?_
  refine va_mmin hx hb (hml.trans hl.1.symm) (index := 33) hown km1 km2 km3 km4 (Nat.le_of_ble_eq_true rfl) (Nat.le_of_ble_eq_true rfl) (Nat.zero_le _) (Nat.zero_le _) dX4_filled_8 ?_
  exact rd_iret hx hb hr hlk (by first | with_reducible rfl | (simp only [resFilled, sld_eq, ↓reduceIte]; done)) dX4_filled_11

set_option maxHeartbeats 4000000 in
set_option maxRecDepth 100000 in
theorem k_X2_startAgain (l : Launch) (G : GT) (ad : Nat → Nat) (o : Nat) (g : GrpT) (k2 : Int32) : Wr l yX2_startAgain wsX2_startAgain { frames := 1, cells := 0, slots := 0, locals := 21 } G (wGrp G ad o g) (wGrp G ad o (grpStart k2 g)) [.ref (ad o), .int k2] none := by
  intro sz
  obtain ⟨wt, r⟩ := g
  refine Met.ofW (cc := cX2_startAgain) (maxL := 2) (ret := none) (by decide) rfl ?_
  intro p e s m args below meth c s₁ B hml hv
  obtain ⟨rfl, hsz, hP, hY, hD0⟩ := hv
  subst hsz
  have hD := hD0.self (sz := s.heap.size)
  generalize hAe : va_A (wGrp G ad o (wt, r)) s.heap.size = A at hD ⊢
  have hA : ∀ q : Nat, s.heap.size ≤ q → A q := fun q h => by rw [← hAe]; exact Or.inr h
  have hS : va_S A s.heap s.heap [] := va_S.rf
  have hx := B.exec
  have hb := B.bytes
  have hr := B.returns
  have hts := atoms_spec (ws := wsX2_startAgain) B.pre
  have hown : s.vm.findClass RX2 = some m.cls := findClass_of_methodNamed B.named
  have hlk := B.notSynchronized
  have CF : CallFix p m c cX2_startAgain 2 s _ wsX2_startAgain RX2 := ⟨hx, hb, hml, hown, hts⟩
  have hiX2 : ∀ w ∈ wsX20, w ∈ wsX2_startAgain := fun w h => (List.mem_cons_of_mem _ (List.mem_append_left _ (List.mem_append_right _ h)))
  have kf16 := hts (.fieldLink RX2 16 "ReservoirReed$Group" "weight" "I") (List.mem_cons_of_mem _ (List.mem_append_left _ (List.mem_append_left _ (List.mem_of_getElem? (i := 0) rfl))))
  have kf10 := hts (.fieldLink RX2 10 "ReservoirReed$Group" "reservoir" "LReservoirReed$Reservoir;") (List.mem_cons_of_mem _ (List.mem_append_left _ (List.mem_append_left _ (List.mem_of_getElem? (i := 1) rfl))))
  have hl := lv_entry ([.ref (ad o), .int k2]) (n := 2) (Nat.le_of_ble_eq_true rfl)
  rw [lg_entry_eq]
  generalize (lg_sl ([.ref (ad o), .int k2]) ++ List.replicate (2 - (lg_sl ([.ref (ad o), .int k2])).length) Slot.unset).toArray = ls at hl ⊢
  have hl : lv_has ls 2 [(0, .ref (ad o)), (1, .int k2)] := hl
  refine lv_aload_n hx hb dX2_startAgain_0 rfl (lv_at hl 0 rfl) ?_
  refine lv_iconst (v := 0) hx hb dX2_startAgain_1 (by decide) ?_
  refine va_put (D := G.1) (ci := 2) (v := .int 0) (ty := .int) (C := RX2) (T := TX2) (N := 2) hx hb hts hiX2 tyX2 tyX2_ok nmX2 hown hY.1 hP hD hS 0 rfl rfl 1 (by decide) kf16 (fun _ h9 => h9) rfl (by decide +kernel) rfl rfl (Nat.le_of_ble_eq_true rfl) dX2_startAgain_2 (fun H locs hP hD hS => ?_)
  have hP : va_P G.1 vwCl (wGrp G ad o (0, r)) H := hP
  have hD : va_D A (wGrp G ad o (0, r)) := hD
  refine lv_aload_n hx hb dX2_startAgain_5 rfl (lv_at hl 0 rfl) ?_
  refine va_get (D := G.1) (ci := 2) (v := .ref (ad (o+1))) (C := RX2) (T := TX2) (N := 2) hx hb hts hiX2 hown hY.1 hP 0 rfl rfl 0 (by decide) kf10 (fun _ h9 => h9) rfl dX2_startAgain_6 ?_
  refine lv_iload_n hx hb dX2_startAgain_9 rfl (lv_at hl 1 rfl) ?_
  refine wrV (List.take 1 (wGrp G ad o (0, r))) (wRes G ad (o+1) r) [] (wRes G ad (o+1) (resStart k2 r)) (As := [.int k2]) (rest := []) CF (k_X4_startAgain l G ad (o+1) r k2) (cwV 1 hts gX2_startAgain_X4_startAgain rfl rfl rfl (by decide +kernel) ⟨Nat.le_of_ble_eq_true rfl, Nat.le_of_ble_eq_true rfl⟩) hP hD hS hA hY rfl rfl (fst_Res _ _ _ _ _) rfl hl.1 rfl (lv_room (Nat.le_of_ble_eq_true rfl)) dX2_startAgain_10 ⟨Nat.zero_le _, Nat.zero_le _⟩ (fun H locs hP hD hS => ?_)
  have hP : va_P G.1 vwCl (wGrp G ad o (0, resStart k2 r)) H := hP
  have hD : va_D A (wGrp G ad o (0, resStart k2 r)) := hD
  exact wr_vret hx hb hr hlk hS hP (by first | with_reducible rfl | (simp only [grpStart, sld_eq, ↓reduceIte]; done)) dX2_startAgain_13

set_option maxHeartbeats 4000000 in
set_option maxRecDepth 100000 in
theorem k_X2_give (l : Launch) (G : GT) (ad : Nat → Nat) (o : Nat) (g : GrpT) (it w po di : Int32) : Wr l yX2_give wsX2_give { frames := 2, cells := 0, slots := 0, locals := 46 } G (wGrp G ad o g) (wGrp G ad o (grpGive g it w po di)) [.ref (ad o), .int it, .int w, .int po, .int di] none := by
  intro sz
  obtain ⟨wt, r⟩ := g
  refine Met.ofW (cc := cX2_give) (maxL := 5) (ret := none) (by decide) rfl ?_
  intro p e s m args below meth c s₁ B hml hv
  obtain ⟨rfl, hsz, hP, hY, hD0⟩ := hv
  subst hsz
  have hD := hD0.self (sz := s.heap.size)
  generalize hAe : va_A (wGrp G ad o (wt, r)) s.heap.size = A at hD ⊢
  have hA : ∀ q : Nat, s.heap.size ≤ q → A q := fun q h => by rw [← hAe]; exact Or.inr h
  have hS : va_S A s.heap s.heap [] := va_S.rf
  have hx := B.exec
  have hb := B.bytes
  have hr := B.returns
  have hts := atoms_spec (ws := wsX2_give) B.pre
  have hown : s.vm.findClass RX2 = some m.cls := findClass_of_methodNamed B.named
  have hlk := B.notSynchronized
  have CF : CallFix p m c cX2_give 5 s _ wsX2_give RX2 := ⟨hx, hb, hml, hown, hts⟩
  have hiX2 : ∀ w ∈ wsX20, w ∈ wsX2_give := fun w h => (List.mem_cons_of_mem _ (List.mem_append_left _ (List.mem_append_right _ h)))
  have kf16 := hts (.fieldLink RX2 16 "ReservoirReed$Group" "weight" "I") (List.mem_cons_of_mem _ (List.mem_append_left _ (List.mem_append_left _ (List.mem_of_getElem? (i := 0) rfl))))
  have kf10 := hts (.fieldLink RX2 10 "ReservoirReed$Group" "reservoir" "LReservoirReed$Reservoir;") (List.mem_cons_of_mem _ (List.mem_append_left _ (List.mem_append_left _ (List.mem_of_getElem? (i := 1) rfl))))
  have hl := lv_entry ([.ref (ad o), .int it, .int w, .int po, .int di]) (n := 5) (Nat.le_of_ble_eq_true rfl)
  rw [lg_entry_eq]
  generalize (lg_sl ([.ref (ad o), .int it, .int w, .int po, .int di]) ++ List.replicate (5 - (lg_sl ([.ref (ad o), .int it, .int w, .int po, .int di])).length) Slot.unset).toArray = ls at hl ⊢
  have hl : lv_has ls 5 [(0, .ref (ad o)), (1, .int it), (2, .int w), (3, .int po), (4, .int di)] := hl
  refine lv_aload_n hx hb dX2_give_0 rfl (lv_at hl 0 rfl) ?_
  refine lv_dup hx hb dX2_give_1 rfl ?_
  refine va_get (D := G.1) (ci := 2) (v := .int wt) (C := RX2) (T := TX2) (N := 2) hx hb hts hiX2 hown hY.1 hP 0 rfl rfl 1 (by decide) kf16 (fun _ h9 => h9) rfl dX2_give_2 ?_
  refine lv_iload_n hx hb dX2_give_5 rfl (lv_at hl 2 rfl) ?_
  refine lv_iadd hx hb dX2_give_6 ?_
  refine va_put (D := G.1) (ci := 2) (v := .int (wt + w)) (ty := .int) (C := RX2) (T := TX2) (N := 2) hx hb hts hiX2 tyX2 tyX2_ok nmX2 hown hY.1 hP hD hS 0 rfl rfl 1 (by decide) kf16 (fun _ h9 => h9) rfl (by decide +kernel) rfl rfl (Nat.le_of_ble_eq_true rfl) dX2_give_7 (fun H locs hP hD hS => ?_)
  have hP : va_P G.1 vwCl (wGrp G ad o (wt + w, r)) H := hP
  have hD : va_D A (wGrp G ad o (wt + w, r)) := hD
  refine lv_aload_n hx hb dX2_give_10 rfl (lv_at hl 0 rfl) ?_
  refine va_get (D := G.1) (ci := 2) (v := .ref (ad (o+1))) (C := RX2) (T := TX2) (N := 2) hx hb hts hiX2 hown hY.1 hP 0 rfl rfl 0 (by decide) kf10 (fun _ h9 => h9) rfl dX2_give_11 ?_
  refine lv_iload_n hx hb dX2_give_14 rfl (lv_at hl 1 rfl) ?_
  refine lv_iload_n hx hb dX2_give_15 rfl (lv_at hl 3 rfl) ?_
  refine lv_iload hx hb dX2_give_16 (lv_at hl 4 rfl) ?_
  refine wrV (List.take 1 (wGrp G ad o (wt + w, r))) (wRes G ad (o+1) r) [] (wRes G ad (o+1) (resGive r it po di)) (As := [.int it, .int po, .int di]) (rest := []) CF (k_X4_give l G ad (o+1) r it po di) (cwV 3 hts gX2_give_X4_give rfl rfl rfl (by decide +kernel) ⟨Nat.le_of_ble_eq_true rfl, Nat.le_of_ble_eq_true rfl⟩) hP hD hS hA hY rfl rfl (fst_Res _ _ _ _ _) rfl hl.1 rfl (lv_room (Nat.le_of_ble_eq_true rfl)) dX2_give_18 ⟨Nat.zero_le _, Nat.zero_le _⟩ (fun H locs hP hD hS => ?_)
  have hP : va_P G.1 vwCl (wGrp G ad o (wt + w, resGive r it po di)) H := hP
  have hD : va_D A (wGrp G ad o (wt + w, resGive r it po di)) := hD
  exact wr_vret hx hb hr hlk hS hP (by first | with_reducible rfl | (simp only [grpGive, sld_eq, ↓reduceIte]; done)) dX2_give_21
