set_option maxHeartbeats 4000000 in
set_option maxRecDepth 100000 in
theorem k_X5_take (l : Launch) (G : GT) (ad : Nat → Nat) (o : Nat) (sg : StrT) (ia wa ga fa sa : Int32) : Wr l yX5_take wsX5_take { frames := 4, cells := 0, slots := 0, locals := 92 } G (wStr G ad o sg) (wStr G ad o (strTake sg ia wa ga fa sa)) [.ref (ad o), .int ia, .int wa, .int ga, .int fa, .int sa] none := by
  intro sz
  obtain ⟨k, w, ta, r, g0, g1, g2, g3, pr, ds, ch⟩ := sg
  refine Met.ofW (cc := cX5_take) (maxL := 6) (ret := none) (by decide) rfl ?_
  intro p e s m args below meth c s₁ B hml hv
  obtain ⟨rfl, hsz, hP, hY, hD0⟩ := hv
  subst hsz
  have hD := hD0.self (sz := s.heap.size)
  generalize hAe : va_A (wStr G ad o (k, w, ta, r, g0, g1, g2, g3, pr, ds, ch)) s.heap.size = A at hD ⊢
  have hA : ∀ q : Nat, s.heap.size ≤ q → A q := fun q h => by rw [← hAe]; exact Or.inr h
  have hS : va_S A s.heap s.heap [] := va_S.rf
  have hx := B.exec
  have hb := B.bytes
  have hr := B.returns
  have hts := atoms_spec (ws := wsX5_take) B.pre
  have hown : s.vm.findClass RX5 = some m.cls := findClass_of_methodNamed B.named
  have hlk := B.notSynchronized
  have CF : CallFix p m c cX5_take 6 s _ wsX5_take RX5 := ⟨hx, hb, hml, hown, hts⟩
  have hiX5 : ∀ w ∈ wsX50, w ∈ wsX5_take := by decide +kernel
  have kf63 := hts (.fieldLink RX5 63 "ReservoirReed$Stream" "taken" "I") (by decide +kernel)
  have kf10 := hts (.fieldLink RX5 10 "ReservoirReed$Stream" "reservoir" "LReservoirReed$Reservoir;") (by decide +kernel)
  have kf35 := hts (.fieldLink RX5 35 "ReservoirReed$Stream" "priorities" "LReservoirReed$Priorities;") (by decide +kernel)
  have kf42 := hts (.fieldLink RX5 42 "ReservoirReed$Stream" "distinct" "LReservoirReed$Distinct;") (by decide +kernel)
  have kf49 := hts (.fieldLink RX5 49 "ReservoirReed$Stream" "chain" "LReservoirReed$Chain;") (by decide +kernel)
  have hl := lv_entry ([.ref (ad o), .int ia, .int wa, .int ga, .int fa, .int sa]) (n := 6) (Nat.le_of_ble_eq_true rfl)
  rw [lg_entry_eq]
  generalize (lg_sl ([.ref (ad o), .int ia, .int wa, .int ga, .int fa, .int sa]) ++ List.replicate (6 - (lg_sl ([.ref (ad o), .int ia, .int wa, .int ga, .int fa, .int sa])).length) Slot.unset).toArray = ls at hl ⊢
  have hl : lv_has ls 6 [(0, .ref (ad o)), (1, .int ia), (2, .int wa), (3, .int ga), (4, .int fa), (5, .int sa)] := hl
  refine lv_aload_n hx hb dX5_take_0 rfl (lv_at hl 0 rfl) ?_
  refine lv_dup hx hb dX5_take_1 rfl ?_
  refine va_get (D := G.1) (ci := 5) (v := .int ta) (C := RX5) (T := TX5) (N := 11) hx hb hts hiX5 hown hY.1 hP 0 rfl rfl 10 (by decide) kf63 (fun _ h9 => h9) rfl dX5_take_2 ?_
  refine lv_iconst (v := 1) hx hb dX5_take_5 (by decide) ?_
  refine lv_iadd hx hb dX5_take_6 ?_
  refine va_put (D := G.1) (ci := 5) (v := .int (ta + 1)) (ty := .int) (C := RX5) (T := TX5) (N := 11) hx hb hts hiX5 tyX5 tyX5_ok nmX5 hown hY.1 hP hD hS 0 rfl rfl 10 (by decide) kf63 (fun _ h9 => h9) rfl (by decide +kernel) rfl rfl (Nat.le_of_ble_eq_true rfl) dX5_take_7 (fun H locs hP hD hS => ?_)
  have hP : va_P G.1 vwCl (wStr G ad o (k, w, ta + 1, r, g0, g1, g2, g3, pr, ds, ch)) H := hP
  have hD : va_D A (wStr G ad o (k, w, ta + 1, r, g0, g1, g2, g3, pr, ds, ch)) := hD
  refine lv_aload_n hx hb dX5_take_10 rfl (lv_at hl 0 rfl) ?_
  refine va_get (D := G.1) (ci := 5) (v := .ref (ad (o+1))) (C := RX5) (T := TX5) (N := 11) hx hb hts hiX5 hown hY.1 hP 0 rfl rfl 0 (by decide) kf10 (fun _ h9 => h9) rfl dX5_take_11 ?_
  refine lv_iload_n hx hb dX5_take_14 rfl (lv_at hl 1 rfl) ?_
  refine lv_aload_n hx hb dX5_take_15 rfl (lv_at hl 0 rfl) ?_
  refine va_get (D := G.1) (ci := 5) (v := .int (ta + 1)) (C := RX5) (T := TX5) (N := 11) hx hb hts hiX5 hown hY.1 hP 0 rfl rfl 10 (by decide) kf63 (fun _ h9 => h9) rfl dX5_take_16 ?_
  refine lv_iload hx hb dX5_take_19 (lv_at hl 4 rfl) ?_
  refine wrV (List.take 1 (wStr G ad o (k, w, ta + 1, r, g0, g1, g2, g3, pr, ds, ch))) (wRes G ad (o+1) r) (List.drop 4 (wStr G ad o (k, w, ta + 1, r, g0, g1, g2, g3, pr, ds, ch))) (wRes G ad (o+1) (resGive r ia (ta + 1) fa)) (As := [.int ia, .int (ta + 1), .int fa]) (rest := []) CF (k_X4_give l G ad (o+1) r ia (ta + 1) fa) (cwV 3 hts gX5_take_X4_give rfl rfl rfl (by decide +kernel) ⟨Nat.le_of_ble_eq_true rfl, Nat.le_of_ble_eq_true rfl⟩) hP hD hS hA hY rfl rfl rfl rfl hl.1 rfl (lv_room (Nat.le_of_ble_eq_true rfl)) dX5_take_21 ⟨Nat.zero_le _, Nat.zero_le _⟩ (fun H locs hP hD hS => ?_)
  have hP : va_P G.1 vwCl (wStr G ad o (k, w, ta + 1, resGive r ia (ta + 1) fa, g0, g1, g2, g3, pr, ds, ch)) H := hP
  have hD : va_D A (wStr G ad o (k, w, ta + 1, resGive r ia (ta + 1) fa, g0, g1, g2, g3, pr, ds, ch)) := hD
  refine lv_aload_n hx hb dX5_take_24 rfl (lv_at hl 0 rfl) ?_
  refine lv_iload_n hx hb dX5_take_25 rfl (lv_at hl 3 rfl) ?_
  by_cases q26_1 : ga = 0
  · refine rdV (w0 := (wStr G ad o (k, w, ta + 1, resGive r ia (ta + 1) fa, g0, g1, g2, g3, pr, ds, ch))) (As := [.int ga]) (rest := []) CF (k_X5_groupOf l G ad o (k, w, ta + 1, resGive r ia (ta + 1) fa, g0, g1, g2, g3, pr, ds, ch) ga) (cwV 1 hts gX5_take_X5_groupOf rfl rfl rfl (by decide +kernel) ⟨Nat.le_of_ble_eq_true rfl, Nat.le_of_ble_eq_true rfl⟩) hP hY rfl rfl rfl hl.1 rfl (lv_room (Nat.le_of_ble_eq_true rfl)) dX5_take_26 ⟨Nat.zero_le _, Nat.zero_le _⟩ ?_
    rw [show grpRef ad o ga = ad (o+4) from (by simp only [grpRef, eq_true q26_1, ↓reduceIte])]
    refine lv_iload_n hx hb dX5_take_29 rfl (lv_at hl 1 rfl) ?_
    refine lv_iload_n hx hb dX5_take_30 rfl (lv_at hl 2 rfl) ?_
    refine lv_aload_n hx hb dX5_take_31 rfl (lv_at hl 0 rfl) ?_
    refine va_get (D := G.1) (ci := 5) (v := .int (ta + 1)) (C := RX5) (T := TX5) (N := 11) hx hb hts hiX5 hown hY.1 hP 0 rfl rfl 10 (by decide) kf63 (fun _ h9 => h9) rfl dX5_take_32 ?_
    refine lv_iload hx hb dX5_take_35 (lv_at hl 4 rfl) ?_
    refine wrV (List.take 4 (wStr G ad o (k, w, ta + 1, resGive r ia (ta + 1) fa, g0, g1, g2, g3, pr, ds, ch))) (wGrp G ad (o+4) g0) (List.drop 8 (wStr G ad o (k, w, ta + 1, resGive r ia (ta + 1) fa, g0, g1, g2, g3, pr, ds, ch))) (wGrp G ad (o+4) (grpGive g0 ia wa (ta + 1) fa)) (As := [.int ia, .int wa, .int (ta + 1), .int fa]) (rest := []) CF (k_X2_give l G ad (o+4) g0 ia wa (ta + 1) fa) (cwV 4 hts gX5_take_X2_give rfl rfl rfl (by decide +kernel) ⟨Nat.le_of_ble_eq_true rfl, Nat.le_of_ble_eq_true rfl⟩) hP hD hS hA hY rfl rfl rfl rfl hl.1 rfl (lv_room (Nat.le_of_ble_eq_true rfl)) dX5_take_37 ⟨Nat.zero_le _, Nat.zero_le _⟩ (fun H locs hP hD hS => ?_)
    have hP : va_P G.1 vwCl (wStr G ad o (k, w, ta + 1, resGive r ia (ta + 1) fa, grpGive g0 ia wa (ta + 1) fa, g1, g2, g3, pr, ds, ch)) H := hP
    have hD : va_D A (wStr G ad o (k, w, ta + 1, resGive r ia (ta + 1) fa, grpGive g0 ia wa (ta + 1) fa, g1, g2, g3, pr, ds, ch)) := hD
    refine lv_aload_n hx hb dX5_take_40 rfl (lv_at hl 0 rfl) ?_
    refine va_get (D := G.1) (ci := 5) (v := .ref (ad (o+20))) (C := RX5) (T := TX5) (N := 11) hx hb hts hiX5 hown hY.1 hP 0 rfl rfl 5 (by decide) kf35 (fun _ h9 => h9) rfl dX5_take_41 ?_
    refine lv_iload_n hx hb dX5_take_44 rfl (lv_at hl 1 rfl) ?_
    refine lv_iload_n hx hb dX5_take_45 rfl (lv_at hl 2 rfl) ?_
    refine lv_iload_n hx hb dX5_take_46 rfl (lv_at hl 3 rfl) ?_
    refine lv_iload hx hb dX5_take_47 (lv_at hl 4 rfl) ?_
    refine wrV (List.take 20 (wStr G ad o (k, w, ta + 1, resGive r ia (ta + 1) fa, grpGive g0 ia wa (ta + 1) fa, g1, g2, g3, pr, ds, ch))) (wPri G ad (o+20) pr) (List.drop 25 (wStr G ad o (k, w, ta + 1, resGive r ia (ta + 1) fa, grpGive g0 ia wa (ta + 1) fa, g1, g2, g3, pr, ds, ch))) (wPri G ad (o+20) (priAdd pr ia wa ga fa)) (As := [.int ia, .int wa, .int ga, .int fa]) (rest := []) CF (k_X3_add l G ad (o+20) pr ia wa ga fa) (cwV 4 hts gX5_take_X3_add rfl rfl rfl (by decide +kernel) ⟨Nat.le_of_ble_eq_true rfl, Nat.le_of_ble_eq_true rfl⟩) hP hD hS hA hY rfl rfl rfl rfl hl.1 rfl (lv_room (Nat.le_of_ble_eq_true rfl)) dX5_take_49 ⟨Nat.zero_le _, Nat.zero_le _⟩ (fun H locs hP hD hS => ?_)
    have hP : va_P G.1 vwCl (wStr G ad o (k, w, ta + 1, resGive r ia (ta + 1) fa, grpGive g0 ia wa (ta + 1) fa, g1, g2, g3, priAdd pr ia wa ga fa, ds, ch)) H := hP
    have hD : va_D A (wStr G ad o (k, w, ta + 1, resGive r ia (ta + 1) fa, grpGive g0 ia wa (ta + 1) fa, g1, g2, g3, priAdd pr ia wa ga fa, ds, ch)) := hD
    refine lv_aload_n hx hb dX5_take_52 rfl (lv_at hl 0 rfl) ?_
    refine va_get (D := G.1) (ci := 5) (v := .ref (ad (o+25))) (C := RX5) (T := TX5) (N := 11) hx hb hts hiX5 hown hY.1 hP 0 rfl rfl 6 (by decide) kf42 (fun _ h9 => h9) rfl dX5_take_53 ?_
    refine lv_iload_n hx hb dX5_take_56 rfl (lv_at hl 1 rfl) ?_
    refine lv_iconst (v := 1) hx hb dX5_take_57 (by decide) ?_
    refine wrV (List.take 25 (wStr G ad o (k, w, ta + 1, resGive r ia (ta + 1) fa, grpGive g0 ia wa (ta + 1) fa, g1, g2, g3, priAdd pr ia wa ga fa, ds, ch))) (wDis G ad (o+25) ds) (List.drop 28 (wStr G ad o (k, w, ta + 1, resGive r ia (ta + 1) fa, grpGive g0 ia wa (ta + 1) fa, g1, g2, g3, priAdd pr ia wa ga fa, ds, ch))) (wDis G ad (o+25) (disAdd ds ia 1)) (As := [.int ia, .int 1]) (rest := []) CF (k_X1_add l G ad (o+25) ds ia 1) (cwV 2 hts gX5_take_X1_add rfl rfl rfl (by decide +kernel) ⟨Nat.le_of_ble_eq_true rfl, Nat.le_of_ble_eq_true rfl⟩) hP hD hS hA hY rfl rfl rfl rfl hl.1 rfl (lv_room (Nat.le_of_ble_eq_true rfl)) dX5_take_58 ⟨Nat.zero_le _, Nat.zero_le _⟩ (fun H locs hP hD hS => ?_)
    have hP : va_P G.1 vwCl (wStr G ad o (k, w, ta + 1, resGive r ia (ta + 1) fa, grpGive g0 ia wa (ta + 1) fa, g1, g2, g3, priAdd pr ia wa ga fa, disAdd ds ia 1, ch)) H := hP
    have hD : va_D A (wStr G ad o (k, w, ta + 1, resGive r ia (ta + 1) fa, grpGive g0 ia wa (ta + 1) fa, g1, g2, g3, priAdd pr ia wa ga fa, disAdd ds ia 1, ch)) := hD
    refine lv_aload_n hx hb dX5_take_61 rfl (lv_at hl 0 rfl) ?_
    refine va_get (D := G.1) (ci := 5) (v := .ref (ad (o+28))) (C := RX5) (T := TX5) (N := 11) hx hb hts hiX5 hown hY.1 hP 0 rfl rfl 7 (by decide) kf49 (fun _ h9 => h9) rfl dX5_take_62 ?_
    refine lv_iload_n hx hb dX5_take_65 rfl (lv_at hl 1 rfl) ?_
    refine lv_aload_n hx hb dX5_take_66 rfl (lv_at hl 0 rfl) ?_
    refine va_get (D := G.1) (ci := 5) (v := .int (ta + 1)) (C := RX5) (T := TX5) (N := 11) hx hb hts hiX5 hown hY.1 hP 0 rfl rfl 10 (by decide) kf63 (fun _ h9 => h9) rfl dX5_take_67 ?_
    refine lv_iload hx hb dX5_take_70 (lv_at hl 4 rfl) ?_
    refine lv_iload hx hb dX5_take_72 (lv_at hl 5 rfl) ?_
    refine wrV (List.take 28 (wStr G ad o (k, w, ta + 1, resGive r ia (ta + 1) fa, grpGive g0 ia wa (ta + 1) fa, g1, g2, g3, priAdd pr ia wa ga fa, disAdd ds ia 1, ch))) (wCha G ad (o+28) ch) [] (wCha G ad (o+28) (chaGive ch ia (ta + 1) fa sa)) (As := [.int ia, .int (ta + 1), .int fa, .int sa]) (rest := []) CF (k_X0_give l G ad (o+28) ch ia (ta + 1) fa sa) (cwV 4 hts gX5_take_X0_give rfl rfl rfl (by decide +kernel) ⟨Nat.le_of_ble_eq_true rfl, Nat.le_of_ble_eq_true rfl⟩) hP hD hS hA hY rfl rfl rfl rfl hl.1 rfl (lv_room (Nat.le_of_ble_eq_true rfl)) dX5_take_74 ⟨Nat.zero_le _, Nat.zero_le _⟩ (fun H locs hP hD hS => ?_)
    have hP : va_P G.1 vwCl (wStr G ad o (k, w, ta + 1, resGive r ia (ta + 1) fa, grpGive g0 ia wa (ta + 1) fa, g1, g2, g3, priAdd pr ia wa ga fa, disAdd ds ia 1, chaGive ch ia (ta + 1) fa sa)) H := hP
    have hD : va_D A (wStr G ad o (k, w, ta + 1, resGive r ia (ta + 1) fa, grpGive g0 ia wa (ta + 1) fa, g1, g2, g3, priAdd pr ia wa ga fa, disAdd ds ia 1, chaGive ch ia (ta + 1) fa sa)) := hD
    exact wr_vret hx hb hr hlk hS hP (by first | with_reducible rfl | (simp only [strTake, eq_true q26_1, ↓reduceIte]; done)) dX5_take_77
  · by_cases q26_2 : ga = 1
    · refine rdV (w0 := (wStr G ad o (k, w, ta + 1, resGive r ia (ta + 1) fa, g0, g1, g2, g3, pr, ds, ch))) (As := [.int ga]) (rest := []) CF (k_X5_groupOf l G ad o (k, w, ta + 1, resGive r ia (ta + 1) fa, g0, g1, g2, g3, pr, ds, ch) ga) (cwV 1 hts gX5_take_X5_groupOf rfl rfl rfl (by decide +kernel) ⟨Nat.le_of_ble_eq_true rfl, Nat.le_of_ble_eq_true rfl⟩) hP hY rfl rfl rfl hl.1 rfl (lv_room (Nat.le_of_ble_eq_true rfl)) dX5_take_26 ⟨Nat.zero_le _, Nat.zero_le _⟩ ?_
      rw [show grpRef ad o ga = ad (o+8) from (by simp only [grpRef, q26_1, eq_true q26_2, ↓reduceIte])]
      refine lv_iload_n hx hb dX5_take_29 rfl (lv_at hl 1 rfl) ?_
      refine lv_iload_n hx hb dX5_take_30 rfl (lv_at hl 2 rfl) ?_
      refine lv_aload_n hx hb dX5_take_31 rfl (lv_at hl 0 rfl) ?_
      refine va_get (D := G.1) (ci := 5) (v := .int (ta + 1)) (C := RX5) (T := TX5) (N := 11) hx hb hts hiX5 hown hY.1 hP 0 rfl rfl 10 (by decide) kf63 (fun _ h9 => h9) rfl dX5_take_32 ?_
      refine lv_iload hx hb dX5_take_35 (lv_at hl 4 rfl) ?_
      refine wrV (List.take 8 (wStr G ad o (k, w, ta + 1, resGive r ia (ta + 1) fa, g0, g1, g2, g3, pr, ds, ch))) (wGrp G ad (o+8) g1) (List.drop 12 (wStr G ad o (k, w, ta + 1, resGive r ia (ta + 1) fa, g0, g1, g2, g3, pr, ds, ch))) (wGrp G ad (o+8) (grpGive g1 ia wa (ta + 1) fa)) (As := [.int ia, .int wa, .int (ta + 1), .int fa]) (rest := []) CF (k_X2_give l G ad (o+8) g1 ia wa (ta + 1) fa) (cwV 4 hts gX5_take_X2_give rfl rfl rfl (by decide +kernel) ⟨Nat.le_of_ble_eq_true rfl, Nat.le_of_ble_eq_true rfl⟩) hP hD hS hA hY rfl rfl rfl rfl hl.1 rfl (lv_room (Nat.le_of_ble_eq_true rfl)) dX5_take_37 ⟨Nat.zero_le _, Nat.zero_le _⟩ (fun H locs hP hD hS => ?_)
      have hP : va_P G.1 vwCl (wStr G ad o (k, w, ta + 1, resGive r ia (ta + 1) fa, g0, grpGive g1 ia wa (ta + 1) fa, g2, g3, pr, ds, ch)) H := hP
      have hD : va_D A (wStr G ad o (k, w, ta + 1, resGive r ia (ta + 1) fa, g0, grpGive g1 ia wa (ta + 1) fa, g2, g3, pr, ds, ch)) := hD
      refine lv_aload_n hx hb dX5_take_40 rfl (lv_at hl 0 rfl) ?_
      refine va_get (D := G.1) (ci := 5) (v := .ref (ad (o+20))) (C := RX5) (T := TX5) (N := 11) hx hb hts hiX5 hown hY.1 hP 0 rfl rfl 5 (by decide) kf35 (fun _ h9 => h9) rfl dX5_take_41 ?_
      refine lv_iload_n hx hb dX5_take_44 rfl (lv_at hl 1 rfl) ?_
      refine lv_iload_n hx hb dX5_take_45 rfl (lv_at hl 2 rfl) ?_
      refine lv_iload_n hx hb dX5_take_46 rfl (lv_at hl 3 rfl) ?_
      refine lv_iload hx hb dX5_take_47 (lv_at hl 4 rfl) ?_
      refine wrV (List.take 20 (wStr G ad o (k, w, ta + 1, resGive r ia (ta + 1) fa, g0, grpGive g1 ia wa (ta + 1) fa, g2, g3, pr, ds, ch))) (wPri G ad (o+20) pr) (List.drop 25 (wStr G ad o (k, w, ta + 1, resGive r ia (ta + 1) fa, g0, grpGive g1 ia wa (ta + 1) fa, g2, g3, pr, ds, ch))) (wPri G ad (o+20) (priAdd pr ia wa ga fa)) (As := [.int ia, .int wa, .int ga, .int fa]) (rest := []) CF (k_X3_add l G ad (o+20) pr ia wa ga fa) (cwV 4 hts gX5_take_X3_add rfl rfl rfl (by decide +kernel) ⟨Nat.le_of_ble_eq_true rfl, Nat.le_of_ble_eq_true rfl⟩) hP hD hS hA hY rfl rfl rfl rfl hl.1 rfl (lv_room (Nat.le_of_ble_eq_true rfl)) dX5_take_49 ⟨Nat.zero_le _, Nat.zero_le _⟩ (fun H locs hP hD hS => ?_)
      have hP : va_P G.1 vwCl (wStr G ad o (k, w, ta + 1, resGive r ia (ta + 1) fa, g0, grpGive g1 ia wa (ta + 1) fa, g2, g3, priAdd pr ia wa ga fa, ds, ch)) H := hP
      have hD : va_D A (wStr G ad o (k, w, ta + 1, resGive r ia (ta + 1) fa, g0, grpGive g1 ia wa (ta + 1) fa, g2, g3, priAdd pr ia wa ga fa, ds, ch)) := hD
      refine lv_aload_n hx hb dX5_take_52 rfl (lv_at hl 0 rfl) ?_
      refine va_get (D := G.1) (ci := 5) (v := .ref (ad (o+25))) (C := RX5) (T := TX5) (N := 11) hx hb hts hiX5 hown hY.1 hP 0 rfl rfl 6 (by decide) kf42 (fun _ h9 => h9) rfl dX5_take_53 ?_
      refine lv_iload_n hx hb dX5_take_56 rfl (lv_at hl 1 rfl) ?_
      refine lv_iconst (v := 1) hx hb dX5_take_57 (by decide) ?_
      refine wrV (List.take 25 (wStr G ad o (k, w, ta + 1, resGive r ia (ta + 1) fa, g0, grpGive g1 ia wa (ta + 1) fa, g2, g3, priAdd pr ia wa ga fa, ds, ch))) (wDis G ad (o+25) ds) (List.drop 28 (wStr G ad o (k, w, ta + 1, resGive r ia (ta + 1) fa, g0, grpGive g1 ia wa (ta + 1) fa, g2, g3, priAdd pr ia wa ga fa, ds, ch))) (wDis G ad (o+25) (disAdd ds ia 1)) (As := [.int ia, .int 1]) (rest := []) CF (k_X1_add l G ad (o+25) ds ia 1) (cwV 2 hts gX5_take_X1_add rfl rfl rfl (by decide +kernel) ⟨Nat.le_of_ble_eq_true rfl, Nat.le_of_ble_eq_true rfl⟩) hP hD hS hA hY rfl rfl rfl rfl hl.1 rfl (lv_room (Nat.le_of_ble_eq_true rfl)) dX5_take_58 ⟨Nat.zero_le _, Nat.zero_le _⟩ (fun H locs hP hD hS => ?_)
      have hP : va_P G.1 vwCl (wStr G ad o (k, w, ta + 1, resGive r ia (ta + 1) fa, g0, grpGive g1 ia wa (ta + 1) fa, g2, g3, priAdd pr ia wa ga fa, disAdd ds ia 1, ch)) H := hP
      have hD : va_D A (wStr G ad o (k, w, ta + 1, resGive r ia (ta + 1) fa, g0, grpGive g1 ia wa (ta + 1) fa, g2, g3, priAdd pr ia wa ga fa, disAdd ds ia 1, ch)) := hD
      refine lv_aload_n hx hb dX5_take_61 rfl (lv_at hl 0 rfl) ?_
      refine va_get (D := G.1) (ci := 5) (v := .ref (ad (o+28))) (C := RX5) (T := TX5) (N := 11) hx hb hts hiX5 hown hY.1 hP 0 rfl rfl 7 (by decide) kf49 (fun _ h9 => h9) rfl dX5_take_62 ?_
      refine lv_iload_n hx hb dX5_take_65 rfl (lv_at hl 1 rfl) ?_
      refine lv_aload_n hx hb dX5_take_66 rfl (lv_at hl 0 rfl) ?_
      refine va_get (D := G.1) (ci := 5) (v := .int (ta + 1)) (C := RX5) (T := TX5) (N := 11) hx hb hts hiX5 hown hY.1 hP 0 rfl rfl 10 (by decide) kf63 (fun _ h9 => h9) rfl dX5_take_67 ?_
      refine lv_iload hx hb dX5_take_70 (lv_at hl 4 rfl) ?_
      refine lv_iload hx hb dX5_take_72 (lv_at hl 5 rfl) ?_
      refine wrV (List.take 28 (wStr G ad o (k, w, ta + 1, resGive r ia (ta + 1) fa, g0, grpGive g1 ia wa (ta + 1) fa, g2, g3, priAdd pr ia wa ga fa, disAdd ds ia 1, ch))) (wCha G ad (o+28) ch) [] (wCha G ad (o+28) (chaGive ch ia (ta + 1) fa sa)) (As := [.int ia, .int (ta + 1), .int fa, .int sa]) (rest := []) CF (k_X0_give l G ad (o+28) ch ia (ta + 1) fa sa) (cwV 4 hts gX5_take_X0_give rfl rfl rfl (by decide +kernel) ⟨Nat.le_of_ble_eq_true rfl, Nat.le_of_ble_eq_true rfl⟩) hP hD hS hA hY rfl rfl rfl rfl hl.1 rfl (lv_room (Nat.le_of_ble_eq_true rfl)) dX5_take_74 ⟨Nat.zero_le _, Nat.zero_le _⟩ (fun H locs hP hD hS => ?_)
      have hP : va_P G.1 vwCl (wStr G ad o (k, w, ta + 1, resGive r ia (ta + 1) fa, g0, grpGive g1 ia wa (ta + 1) fa, g2, g3, priAdd pr ia wa ga fa, disAdd ds ia 1, chaGive ch ia (ta + 1) fa sa)) H := hP
      have hD : va_D A (wStr G ad o (k, w, ta + 1, resGive r ia (ta + 1) fa, g0, grpGive g1 ia wa (ta + 1) fa, g2, g3, priAdd pr ia wa ga fa, disAdd ds ia 1, chaGive ch ia (ta + 1) fa sa)) := hD
      exact wr_vret hx hb hr hlk hS hP (by first | with_reducible rfl | (simp only [strTake, q26_1, eq_true q26_2, ↓reduceIte]; done)) dX5_take_77
    · by_cases q26_3 : ga = 2
      · refine rdV (w0 := (wStr G ad o (k, w, ta + 1, resGive r ia (ta + 1) fa, g0, g1, g2, g3, pr, ds, ch))) (As := [.int ga]) (rest := []) CF (k_X5_groupOf l G ad o (k, w, ta + 1, resGive r ia (ta + 1) fa, g0, g1, g2, g3, pr, ds, ch) ga) (cwV 1 hts gX5_take_X5_groupOf rfl rfl rfl (by decide +kernel) ⟨Nat.le_of_ble_eq_true rfl, Nat.le_of_ble_eq_true rfl⟩) hP hY rfl rfl rfl hl.1 rfl (lv_room (Nat.le_of_ble_eq_true rfl)) dX5_take_26 ⟨Nat.zero_le _, Nat.zero_le _⟩ ?_
        rw [show grpRef ad o ga = ad (o+12) from (by simp only [grpRef, q26_1, q26_2, eq_true q26_3, ↓reduceIte])]
        refine lv_iload_n hx hb dX5_take_29 rfl (lv_at hl 1 rfl) ?_
        refine lv_iload_n hx hb dX5_take_30 rfl (lv_at hl 2 rfl) ?_
        refine lv_aload_n hx hb dX5_take_31 rfl (lv_at hl 0 rfl) ?_
        refine va_get (D := G.1) (ci := 5) (v := .int (ta + 1)) (C := RX5) (T := TX5) (N := 11) hx hb hts hiX5 hown hY.1 hP 0 rfl rfl 10 (by decide) kf63 (fun _ h9 => h9) rfl dX5_take_32 ?_
        refine lv_iload hx hb dX5_take_35 (lv_at hl 4 rfl) ?_
        refine wrV (List.take 12 (wStr G ad o (k, w, ta + 1, resGive r ia (ta + 1) fa, g0, g1, g2, g3, pr, ds, ch))) (wGrp G ad (o+12) g2) (List.drop 16 (wStr G ad o (k, w, ta + 1, resGive r ia (ta + 1) fa, g0, g1, g2, g3, pr, ds, ch))) (wGrp G ad (o+12) (grpGive g2 ia wa (ta + 1) fa)) (As := [.int ia, .int wa, .int (ta + 1), .int fa]) (rest := []) CF (k_X2_give l G ad (o+12) g2 ia wa (ta + 1) fa) (cwV 4 hts gX5_take_X2_give rfl rfl rfl (by decide +kernel) ⟨Nat.le_of_ble_eq_true rfl, Nat.le_of_ble_eq_true rfl⟩) hP hD hS hA hY rfl rfl rfl rfl hl.1 rfl (lv_room (Nat.le_of_ble_eq_true rfl)) dX5_take_37 ⟨Nat.zero_le _, Nat.zero_le _⟩ (fun H locs hP hD hS => ?_)
        have hP : va_P G.1 vwCl (wStr G ad o (k, w, ta + 1, resGive r ia (ta + 1) fa, g0, g1, grpGive g2 ia wa (ta + 1) fa, g3, pr, ds, ch)) H := hP
        have hD : va_D A (wStr G ad o (k, w, ta + 1, resGive r ia (ta + 1) fa, g0, g1, grpGive g2 ia wa (ta + 1) fa, g3, pr, ds, ch)) := hD
        refine lv_aload_n hx hb dX5_take_40 rfl (lv_at hl 0 rfl) ?_
        refine va_get (D := G.1) (ci := 5) (v := .ref (ad (o+20))) (C := RX5) (T := TX5) (N := 11) hx hb hts hiX5 hown hY.1 hP 0 rfl rfl 5 (by decide) kf35 (fun _ h9 => h9) rfl dX5_take_41 ?_
        refine lv_iload_n hx hb dX5_take_44 rfl (lv_at hl 1 rfl) ?_
        refine lv_iload_n hx hb dX5_take_45 rfl (lv_at hl 2 rfl) ?_
        refine lv_iload_n hx hb dX5_take_46 rfl (lv_at hl 3 rfl) ?_
        refine lv_iload hx hb dX5_take_47 (lv_at hl 4 rfl) ?_
        refine wrV (List.take 20 (wStr G ad o (k, w, ta + 1, resGive r ia (ta + 1) fa, g0, g1, grpGive g2 ia wa (ta + 1) fa, g3, pr, ds, ch))) (wPri G ad (o+20) pr) (List.drop 25 (wStr G ad o (k, w, ta + 1, resGive r ia (ta + 1) fa, g0, g1, grpGive g2 ia wa (ta + 1) fa, g3, pr, ds, ch))) (wPri G ad (o+20) (priAdd pr ia wa ga fa)) (As := [.int ia, .int wa, .int ga, .int fa]) (rest := []) CF (k_X3_add l G ad (o+20) pr ia wa ga fa) (cwV 4 hts gX5_take_X3_add rfl rfl rfl (by decide +kernel) ⟨Nat.le_of_ble_eq_true rfl, Nat.le_of_ble_eq_true rfl⟩) hP hD hS hA hY rfl rfl rfl rfl hl.1 rfl (lv_room (Nat.le_of_ble_eq_true rfl)) dX5_take_49 ⟨Nat.zero_le _, Nat.zero_le _⟩ (fun H locs hP hD hS => ?_)
        have hP : va_P G.1 vwCl (wStr G ad o (k, w, ta + 1, resGive r ia (ta + 1) fa, g0, g1, grpGive g2 ia wa (ta + 1) fa, g3, priAdd pr ia wa ga fa, ds, ch)) H := hP
        have hD : va_D A (wStr G ad o (k, w, ta + 1, resGive r ia (ta + 1) fa, g0, g1, grpGive g2 ia wa (ta + 1) fa, g3, priAdd pr ia wa ga fa, ds, ch)) := hD
        refine lv_aload_n hx hb dX5_take_52 rfl (lv_at hl 0 rfl) ?_
        refine va_get (D := G.1) (ci := 5) (v := .ref (ad (o+25))) (C := RX5) (T := TX5) (N := 11) hx hb hts hiX5 hown hY.1 hP 0 rfl rfl 6 (by decide) kf42 (fun _ h9 => h9) rfl dX5_take_53 ?_
        refine lv_iload_n hx hb dX5_take_56 rfl (lv_at hl 1 rfl) ?_
        refine lv_iconst (v := 1) hx hb dX5_take_57 (by decide) ?_
        refine wrV (List.take 25 (wStr G ad o (k, w, ta + 1, resGive r ia (ta + 1) fa, g0, g1, grpGive g2 ia wa (ta + 1) fa, g3, priAdd pr ia wa ga fa, ds, ch))) (wDis G ad (o+25) ds) (List.drop 28 (wStr G ad o (k, w, ta + 1, resGive r ia (ta + 1) fa, g0, g1, grpGive g2 ia wa (ta + 1) fa, g3, priAdd pr ia wa ga fa, ds, ch))) (wDis G ad (o+25) (disAdd ds ia 1)) (As := [.int ia, .int 1]) (rest := []) CF (k_X1_add l G ad (o+25) ds ia 1) (cwV 2 hts gX5_take_X1_add rfl rfl rfl (by decide +kernel) ⟨Nat.le_of_ble_eq_true rfl, Nat.le_of_ble_eq_true rfl⟩) hP hD hS hA hY rfl rfl rfl rfl hl.1 rfl (lv_room (Nat.le_of_ble_eq_true rfl)) dX5_take_58 ⟨Nat.zero_le _, Nat.zero_le _⟩ (fun H locs hP hD hS => ?_)
        have hP : va_P G.1 vwCl (wStr G ad o (k, w, ta + 1, resGive r ia (ta + 1) fa, g0, g1, grpGive g2 ia wa (ta + 1) fa, g3, priAdd pr ia wa ga fa, disAdd ds ia 1, ch)) H := hP
        have hD : va_D A (wStr G ad o (k, w, ta + 1, resGive r ia (ta + 1) fa, g0, g1, grpGive g2 ia wa (ta + 1) fa, g3, priAdd pr ia wa ga fa, disAdd ds ia 1, ch)) := hD
        refine lv_aload_n hx hb dX5_take_61 rfl (lv_at hl 0 rfl) ?_
        refine va_get (D := G.1) (ci := 5) (v := .ref (ad (o+28))) (C := RX5) (T := TX5) (N := 11) hx hb hts hiX5 hown hY.1 hP 0 rfl rfl 7 (by decide) kf49 (fun _ h9 => h9) rfl dX5_take_62 ?_
        refine lv_iload_n hx hb dX5_take_65 rfl (lv_at hl 1 rfl) ?_
        refine lv_aload_n hx hb dX5_take_66 rfl (lv_at hl 0 rfl) ?_
        refine va_get (D := G.1) (ci := 5) (v := .int (ta + 1)) (C := RX5) (T := TX5) (N := 11) hx hb hts hiX5 hown hY.1 hP 0 rfl rfl 10 (by decide) kf63 (fun _ h9 => h9) rfl dX5_take_67 ?_
        refine lv_iload hx hb dX5_take_70 (lv_at hl 4 rfl) ?_
        refine lv_iload hx hb dX5_take_72 (lv_at hl 5 rfl) ?_
        refine wrV (List.take 28 (wStr G ad o (k, w, ta + 1, resGive r ia (ta + 1) fa, g0, g1, grpGive g2 ia wa (ta + 1) fa, g3, priAdd pr ia wa ga fa, disAdd ds ia 1, ch))) (wCha G ad (o+28) ch) [] (wCha G ad (o+28) (chaGive ch ia (ta + 1) fa sa)) (As := [.int ia, .int (ta + 1), .int fa, .int sa]) (rest := []) CF (k_X0_give l G ad (o+28) ch ia (ta + 1) fa sa) (cwV 4 hts gX5_take_X0_give rfl rfl rfl (by decide +kernel) ⟨Nat.le_of_ble_eq_true rfl, Nat.le_of_ble_eq_true rfl⟩) hP hD hS hA hY rfl rfl rfl rfl hl.1 rfl (lv_room (Nat.le_of_ble_eq_true rfl)) dX5_take_74 ⟨Nat.zero_le _, Nat.zero_le _⟩ (fun H locs hP hD hS => ?_)
        have hP : va_P G.1 vwCl (wStr G ad o (k, w, ta + 1, resGive r ia (ta + 1) fa, g0, g1, grpGive g2 ia wa (ta + 1) fa, g3, priAdd pr ia wa ga fa, disAdd ds ia 1, chaGive ch ia (ta + 1) fa sa)) H := hP
        have hD : va_D A (wStr G ad o (k, w, ta + 1, resGive r ia (ta + 1) fa, g0, g1, grpGive g2 ia wa (ta + 1) fa, g3, priAdd pr ia wa ga fa, disAdd ds ia 1, chaGive ch ia (ta + 1) fa sa)) := hD
        exact wr_vret hx hb hr hlk hS hP (by first | with_reducible rfl | (simp only [strTake, q26_1, q26_2, eq_true q26_3, ↓reduceIte]; done)) dX5_take_77
      · refine rdV (w0 := (wStr G ad o (k, w, ta + 1, resGive r ia (ta + 1) fa, g0, g1, g2, g3, pr, ds, ch))) (As := [.int ga]) (rest := []) CF (k_X5_groupOf l G ad o (k, w, ta + 1, resGive r ia (ta + 1) fa, g0, g1, g2, g3, pr, ds, ch) ga) (cwV 1 hts gX5_take_X5_groupOf rfl rfl rfl (by decide +kernel) ⟨Nat.le_of_ble_eq_true rfl, Nat.le_of_ble_eq_true rfl⟩) hP hY rfl rfl rfl hl.1 rfl (lv_room (Nat.le_of_ble_eq_true rfl)) dX5_take_26 ⟨Nat.zero_le _, Nat.zero_le _⟩ ?_
        rw [show grpRef ad o ga = ad (o+16) from (by simp only [grpRef, q26_1, q26_2, q26_3, ↓reduceIte])]
        refine lv_iload_n hx hb dX5_take_29 rfl (lv_at hl 1 rfl) ?_
        refine lv_iload_n hx hb dX5_take_30 rfl (lv_at hl 2 rfl) ?_
        refine lv_aload_n hx hb dX5_take_31 rfl (lv_at hl 0 rfl) ?_
        refine va_get (D := G.1) (ci := 5) (v := .int (ta + 1)) (C := RX5) (T := TX5) (N := 11) hx hb hts hiX5 hown hY.1 hP 0 rfl rfl 10 (by decide) kf63 (fun _ h9 => h9) rfl dX5_take_32 ?_
        refine lv_iload hx hb dX5_take_35 (lv_at hl 4 rfl) ?_
        refine wrV (List.take 16 (wStr G ad o (k, w, ta + 1, resGive r ia (ta + 1) fa, g0, g1, g2, g3, pr, ds, ch))) (wGrp G ad (o+16) g3) (List.drop 20 (wStr G ad o (k, w, ta + 1, resGive r ia (ta + 1) fa, g0, g1, g2, g3, pr, ds, ch))) (wGrp G ad (o+16) (grpGive g3 ia wa (ta + 1) fa)) (As := [.int ia, .int wa, .int (ta + 1), .int fa]) (rest := []) CF (k_X2_give l G ad (o+16) g3 ia wa (ta + 1) fa) (cwV 4 hts gX5_take_X2_give rfl rfl rfl (by decide +kernel) ⟨Nat.le_of_ble_eq_true rfl, Nat.le_of_ble_eq_true rfl⟩) hP hD hS hA hY rfl rfl rfl rfl hl.1 rfl (lv_room (Nat.le_of_ble_eq_true rfl)) dX5_take_37 ⟨Nat.zero_le _, Nat.zero_le _⟩ (fun H locs hP hD hS => ?_)
        have hP : va_P G.1 vwCl (wStr G ad o (k, w, ta + 1, resGive r ia (ta + 1) fa, g0, g1, g2, grpGive g3 ia wa (ta + 1) fa, pr, ds, ch)) H := hP
        have hD : va_D A (wStr G ad o (k, w, ta + 1, resGive r ia (ta + 1) fa, g0, g1, g2, grpGive g3 ia wa (ta + 1) fa, pr, ds, ch)) := hD
        refine lv_aload_n hx hb dX5_take_40 rfl (lv_at hl 0 rfl) ?_
        refine va_get (D := G.1) (ci := 5) (v := .ref (ad (o+20))) (C := RX5) (T := TX5) (N := 11) hx hb hts hiX5 hown hY.1 hP 0 rfl rfl 5 (by decide) kf35 (fun _ h9 => h9) rfl dX5_take_41 ?_
        refine lv_iload_n hx hb dX5_take_44 rfl (lv_at hl 1 rfl) ?_
        refine lv_iload_n hx hb dX5_take_45 rfl (lv_at hl 2 rfl) ?_
        refine lv_iload_n hx hb dX5_take_46 rfl (lv_at hl 3 rfl) ?_
        refine lv_iload hx hb dX5_take_47 (lv_at hl 4 rfl) ?_
        refine wrV (List.take 20 (wStr G ad o (k, w, ta + 1, resGive r ia (ta + 1) fa, g0, g1, g2, grpGive g3 ia wa (ta + 1) fa, pr, ds, ch))) (wPri G ad (o+20) pr) (List.drop 25 (wStr G ad o (k, w, ta + 1, resGive r ia (ta + 1) fa, g0, g1, g2, grpGive g3 ia wa (ta + 1) fa, pr, ds, ch))) (wPri G ad (o+20) (priAdd pr ia wa ga fa)) (As := [.int ia, .int wa, .int ga, .int fa]) (rest := []) CF (k_X3_add l G ad (o+20) pr ia wa ga fa) (cwV 4 hts gX5_take_X3_add rfl rfl rfl (by decide +kernel) ⟨Nat.le_of_ble_eq_true rfl, Nat.le_of_ble_eq_true rfl⟩) hP hD hS hA hY rfl rfl rfl rfl hl.1 rfl (lv_room (Nat.le_of_ble_eq_true rfl)) dX5_take_49 ⟨Nat.zero_le _, Nat.zero_le _⟩ (fun H locs hP hD hS => ?_)
        have hP : va_P G.1 vwCl (wStr G ad o (k, w, ta + 1, resGive r ia (ta + 1) fa, g0, g1, g2, grpGive g3 ia wa (ta + 1) fa, priAdd pr ia wa ga fa, ds, ch)) H := hP
        have hD : va_D A (wStr G ad o (k, w, ta + 1, resGive r ia (ta + 1) fa, g0, g1, g2, grpGive g3 ia wa (ta + 1) fa, priAdd pr ia wa ga fa, ds, ch)) := hD
        refine lv_aload_n hx hb dX5_take_52 rfl (lv_at hl 0 rfl) ?_
        refine va_get (D := G.1) (ci := 5) (v := .ref (ad (o+25))) (C := RX5) (T := TX5) (N := 11) hx hb hts hiX5 hown hY.1 hP 0 rfl rfl 6 (by decide) kf42 (fun _ h9 => h9) rfl dX5_take_53 ?_
        refine lv_iload_n hx hb dX5_take_56 rfl (lv_at hl 1 rfl) ?_
        refine lv_iconst (v := 1) hx hb dX5_take_57 (by decide) ?_
        refine wrV (List.take 25 (wStr G ad o (k, w, ta + 1, resGive r ia (ta + 1) fa, g0, g1, g2, grpGive g3 ia wa (ta + 1) fa, priAdd pr ia wa ga fa, ds, ch))) (wDis G ad (o+25) ds) (List.drop 28 (wStr G ad o (k, w, ta + 1, resGive r ia (ta + 1) fa, g0, g1, g2, grpGive g3 ia wa (ta + 1) fa, priAdd pr ia wa ga fa, ds, ch))) (wDis G ad (o+25) (disAdd ds ia 1)) (As := [.int ia, .int 1]) (rest := []) CF (k_X1_add l G ad (o+25) ds ia 1) (cwV 2 hts gX5_take_X1_add rfl rfl rfl (by decide +kernel) ⟨Nat.le_of_ble_eq_true rfl, Nat.le_of_ble_eq_true rfl⟩) hP hD hS hA hY rfl rfl rfl rfl hl.1 rfl (lv_room (Nat.le_of_ble_eq_true rfl)) dX5_take_58 ⟨Nat.zero_le _, Nat.zero_le _⟩ (fun H locs hP hD hS => ?_)
        have hP : va_P G.1 vwCl (wStr G ad o (k, w, ta + 1, resGive r ia (ta + 1) fa, g0, g1, g2, grpGive g3 ia wa (ta + 1) fa, priAdd pr ia wa ga fa, disAdd ds ia 1, ch)) H := hP
        have hD : va_D A (wStr G ad o (k, w, ta + 1, resGive r ia (ta + 1) fa, g0, g1, g2, grpGive g3 ia wa (ta + 1) fa, priAdd pr ia wa ga fa, disAdd ds ia 1, ch)) := hD
        refine lv_aload_n hx hb dX5_take_61 rfl (lv_at hl 0 rfl) ?_
        refine va_get (D := G.1) (ci := 5) (v := .ref (ad (o+28))) (C := RX5) (T := TX5) (N := 11) hx hb hts hiX5 hown hY.1 hP 0 rfl rfl 7 (by decide) kf49 (fun _ h9 => h9) rfl dX5_take_62 ?_
        refine lv_iload_n hx hb dX5_take_65 rfl (lv_at hl 1 rfl) ?_
        refine lv_aload_n hx hb dX5_take_66 rfl (lv_at hl 0 rfl) ?_
        refine va_get (D := G.1) (ci := 5) (v := .int (ta + 1)) (C := RX5) (T := TX5) (N := 11) hx hb hts hiX5 hown hY.1 hP 0 rfl rfl 10 (by decide) kf63 (fun _ h9 => h9) rfl dX5_take_67 ?_
        refine lv_iload hx hb dX5_take_70 (lv_at hl 4 rfl) ?_
        refine lv_iload hx hb dX5_take_72 (lv_at hl 5 rfl) ?_
        refine wrV (List.take 28 (wStr G ad o (k, w, ta + 1, resGive r ia (ta + 1) fa, g0, g1, g2, grpGive g3 ia wa (ta + 1) fa, priAdd pr ia wa ga fa, disAdd ds ia 1, ch))) (wCha G ad (o+28) ch) [] (wCha G ad (o+28) (chaGive ch ia (ta + 1) fa sa)) (As := [.int ia, .int (ta + 1), .int fa, .int sa]) (rest := []) CF (k_X0_give l G ad (o+28) ch ia (ta + 1) fa sa) (cwV 4 hts gX5_take_X0_give rfl rfl rfl (by decide +kernel) ⟨Nat.le_of_ble_eq_true rfl, Nat.le_of_ble_eq_true rfl⟩) hP hD hS hA hY rfl rfl rfl rfl hl.1 rfl (lv_room (Nat.le_of_ble_eq_true rfl)) dX5_take_74 ⟨Nat.zero_le _, Nat.zero_le _⟩ (fun H locs hP hD hS => ?_)
        have hP : va_P G.1 vwCl (wStr G ad o (k, w, ta + 1, resGive r ia (ta + 1) fa, g0, g1, g2, grpGive g3 ia wa (ta + 1) fa, priAdd pr ia wa ga fa, disAdd ds ia 1, chaGive ch ia (ta + 1) fa sa)) H := hP
        have hD : va_D A (wStr G ad o (k, w, ta + 1, resGive r ia (ta + 1) fa, g0, g1, g2, grpGive g3 ia wa (ta + 1) fa, priAdd pr ia wa ga fa, disAdd ds ia 1, chaGive ch ia (ta + 1) fa sa)) := hD
        exact wr_vret hx hb hr hlk hS hP (by first | with_reducible rfl | (simp only [strTake, q26_1, q26_2, q26_3, ↓reduceIte]; done)) dX5_take_77
