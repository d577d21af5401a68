set_option maxHeartbeats 4000000 in
set_option maxRecDepth 100000 in
theorem k_X3_startAgain (l : Launch) (G : GT) (ad : Nat → Nat) (o : Nat) (r : PriT) (k2 : Int32) : Wr l yX3_startAgain wsX3_startAgain { frames := 0, cells := 0, slots := 0, locals := 0 } G (wPri G ad o r) (wPri G ad o (priStart k2 r)) [.ref (ad o), .int k2] none := by
  intro sz
  obtain ⟨k, hd, it, we, gr, di⟩ := r
  refine Met.ofW (cc := cX3_startAgain) (maxL := 2) (ret := none) (by decide) rfl ?_
  intro p e s m args below meth c s₁ B hml hv
  obtain ⟨rfl, hsz, hP, hY, hD0⟩ := hv
  subst hsz
  have hD := hD0.self (sz := s.heap.size)
  generalize hAe : va_A (wPri G ad o (k, hd, it, we, gr, di)) s.heap.size = A at hD ⊢
  have hA : ∀ q : Nat, s.heap.size ≤ q → A q := fun q h => by rw [← hAe]; exact Or.inr h
  have hS : va_S A s.heap s.heap [] := va_S.rf
  have hx := B.exec
  have hb := B.bytes
  have hr := B.returns
  have hts := atoms_spec (ws := wsX3_startAgain) B.pre
  have hown : s.vm.findClass RX3 = some m.cls := findClass_of_methodNamed B.named
  have hlk := B.notSynchronized
  have CF : CallFix p m c cX3_startAgain 2 s _ wsX3_startAgain RX3 := ⟨hx, hb, hml, hown, hts⟩
  have hiX3 : ∀ w ∈ wsX30, w ∈ wsX3_startAgain := fun w h => (List.mem_cons_of_mem _ (List.mem_append_right _ h))
  have kf24 := hts (.fieldLink RX3 24 "ReservoirReed$Priorities" "size" "I") (List.mem_cons_of_mem _ (List.mem_append_left _ (List.mem_of_getElem? (i := 0) rfl)))
  have kf28 := hts (.fieldLink RX3 28 "ReservoirReed$Priorities" "held" "I") (List.mem_cons_of_mem _ (List.mem_append_left _ (List.mem_of_getElem? (i := 1) rfl)))
  have hl := lv_entry ([.ref (ad o), .int k2]) (n := 2) (Nat.le_of_ble_eq_true rfl)
  rw [lg_entry_eq]
  generalize (lg_sl ([.ref (ad o), .int k2]) ++ List.replicate (2 - (lg_sl ([.ref (ad o), .int k2])).length) Slot.unset).toArray = ls at hl ⊢
  have hl : lv_has ls 2 [(0, .ref (ad o)), (1, .int k2)] := hl
  refine lv_aload_n hx hb dX3_startAgain_0 rfl (lv_at hl 0 rfl) ?_
  refine lv_iload_n hx hb dX3_startAgain_1 rfl (lv_at hl 1 rfl) ?_
  refine va_put (D := G.1) (ci := 3) (v := .int k2) (ty := .int) (C := RX3) (T := TX3) (N := 6) hx hb hts hiX3 tyX3 tyX3_ok nmX3 hown hY.1 hP hD hS 0 rfl rfl 4 (by decide) kf24 (fun _ h9 => h9) rfl (by decide +kernel) rfl rfl (Nat.le_of_ble_eq_true rfl) dX3_startAgain_2 (fun H locs hP hD hS => ?_)
  have hP : va_P G.1 vwCl (wPri G ad o (k2, hd, it, we, gr, di)) H := hP
  have hD : va_D A (wPri G ad o (k2, hd, it, we, gr, di)) := hD
  refine lv_aload_n hx hb dX3_startAgain_5 rfl (lv_at hl 0 rfl) ?_
  refine lv_iconst (v := 0) hx hb dX3_startAgain_6 (by decide) ?_
  refine va_put (D := G.1) (ci := 3) (v := .int 0) (ty := .int) (C := RX3) (T := TX3) (N := 6) hx hb hts hiX3 tyX3 tyX3_ok nmX3 hown hY.1 hP hD hS 0 rfl rfl 5 (by decide) kf28 (fun _ h9 => h9) rfl (by decide +kernel) rfl rfl (Nat.le_of_ble_eq_true rfl) dX3_startAgain_7 (fun H locs hP hD hS => ?_)
  have hP : va_P G.1 vwCl (wPri G ad o (k2, 0, it, we, gr, di)) H := hP
  have hD : va_D A (wPri G ad o (k2, 0, it, we, gr, di)) := hD
  exact wr_vret hx hb hr hlk hS hP (by first | with_reducible rfl | (simp only [priStart, sld_eq, ↓reduceIte]; done)) dX3_startAgain_10

set_option maxHeartbeats 4000000 in
set_option maxRecDepth 100000 in
theorem k_X3_isGreater (l : Launch) (G : GT) (ad : Nat → Nat) (o : Nat) (r : PriT) (w d j : Int32) : Rd l yX3_isGreater wsX3_isGreater { frames := 1, cells := 0, slots := 0, locals := 21 } G (wPri G ad o r) [.ref (ad o), .int w, .int d, .int j] (.int (isG r w d j)) := by
  refine Met.ofW (cc := cX3_isGreater) (maxL := 4) (ret := (some .boolean)) (by decide) rfl ?_
  intro p e s m args below meth c s₁ B hml hv
  obtain ⟨rfl, hP, hY⟩ := hv
  have hx := B.exec
  have hb := B.bytes
  have hr := B.returns
  have hts := atoms_spec (ws := wsX3_isGreater) B.pre
  have hown : s.vm.findClass RX3 = some m.cls := findClass_of_methodNamed B.named
  have hlk := B.notSynchronized
  have CF : CallFix p m c cX3_isGreater 4 s _ wsX3_isGreater RX3 := ⟨hx, hb, hml, hown, hts⟩
  have hiX3 : ∀ w ∈ wsX30, w ∈ wsX3_isGreater := fun w h => (List.mem_cons_of_mem _ (List.mem_append_right _ h))
  have kf21 := hts (.fieldLink RX3 21 "ReservoirReed$Priorities" "dice" "[I") (List.mem_cons_of_mem _ (List.mem_append_left _ (List.mem_of_getElem? (i := 0) rfl)))
  have knRX6 := hts (.initialized RX6) (List.mem_cons_of_mem _ (List.mem_append_left _ (List.mem_of_getElem? (i := 3) rfl)))
  have ks_X6_at := hts (.static yX6_at) (List.mem_cons_of_mem _ (List.mem_append_left _ (List.mem_of_getElem? (i := 2) rfl)))
  have kf15 := hts (.fieldLink RX3 15 "ReservoirReed$Priorities" "weights" "[I") (List.mem_cons_of_mem _ (List.mem_append_left _ (List.mem_of_getElem? (i := 1) rfl)))
  have hl := lv_entry ([.ref (ad o), .int w, .int d, .int j]) (n := 4) (Nat.le_of_ble_eq_true rfl)
  rw [lg_entry_eq]
  generalize (lg_sl ([.ref (ad o), .int w, .int d, .int j]) ++ List.replicate (4 - (lg_sl ([.ref (ad o), .int w, .int d, .int j])).length) Slot.unset).toArray = ls at hl ⊢
  have hl : lv_has ls 4 [(0, .ref (ad o)), (1, .int w), (2, .int d), (3, .int j)] := hl
  refine lv_iload_n hx hb dX3_isGreater_0 rfl (lv_at hl 1 rfl) ?_
  refine lv_i2l hx hb dX3_isGreater_1 rfl ?_
  refine lv_aload_n hx hb dX3_isGreater_2 rfl (lv_at hl 0 rfl) ?_
  refine va_get (D := G.1) (ci := 3) (v := .ref (ad (o+4))) (C := RX3) (T := TX3) (N := 6) hx hb hts hiX3 hown hY.1 hP 0 rfl rfl 3 (by decide) kf21 (fun _ h9 => h9) rfl dX3_isGreater_3 ?_
  refine lv_iload_n hx hb dX3_isGreater_6 rfl (lv_at hl 3 rfl) ?_
  refine rdSN (w0 := [(ad (o+4), .inl (G.2.1, 17, .inl r.2.2.2.2.2))]) (As := [.ref (ad (o+4)), .int j]) (rest := [.long w.toInt64]) CF (k_X6_at l G 17 (ad (o+4)) r.2.2.2.2.2 j (by decide)) ⟨va_cnB 2 hts gX3_isGreater_X6_at_n31 rfl rfl rfl (hY.2.1 (.methodLinkNest RX3 31 yX6_at RX6) (List.mem_of_getElem? (i := 29) rfl)) knRX6 (by decide +kernel) ⟨Nat.le_of_ble_eq_true rfl, Nat.le_of_ble_eq_true rfl⟩, ks_X6_at, trivial⟩ (hP.sub (ws' := [(ad (o+4), .inl (G.2.1, 17, .inl r.2.2.2.2.2))]) [4] rfl) hY rfl hl.1 rfl (lv_room (Nat.le_of_ble_eq_true rfl)) dX3_isGreater_7 ⟨Nat.zero_le _, Nat.zero_le _⟩ ?_
  refine lv_i2l hx hb dX3_isGreater_10 rfl ?_
  refine lv_lconst (v := 1) hx hb dX3_isGreater_11 (by decide) ?_
  refine lv_ladd hx hb dX3_isGreater_12 ?_
  refine lv_lmul hx hb dX3_isGreater_13 ?_
  refine lv_aload_n hx hb dX3_isGreater_14 rfl (lv_at hl 0 rfl) ?_
  refine va_get (D := G.1) (ci := 3) (v := .ref (ad (o+2))) (C := RX3) (T := TX3) (N := 6) hx hb hts hiX3 hown hY.1 hP 0 rfl rfl 1 (by decide) kf15 (fun _ h9 => h9) rfl dX3_isGreater_15 ?_
  refine lv_iload_n hx hb dX3_isGreater_18 rfl (lv_at hl 3 rfl) ?_
  refine rdSN (w0 := [(ad (o+2), .inl (G.2.1, 17, .inl r.2.2.2.1))]) (As := [.ref (ad (o+2)), .int j]) (rest := [.long (w.toInt64 * (((at_ 17 r.2.2.2.2.2 j).toInt64) + 1))]) CF (k_X6_at l G 17 (ad (o+2)) r.2.2.2.1 j (by decide)) ⟨va_cnB 2 hts gX3_isGreater_X6_at_n31 rfl rfl rfl (hY.2.1 (.methodLinkNest RX3 31 yX6_at RX6) (List.mem_of_getElem? (i := 29) rfl)) knRX6 (by decide +kernel) ⟨Nat.le_of_ble_eq_true rfl, Nat.le_of_ble_eq_true rfl⟩, ks_X6_at, trivial⟩ (hP.sub (ws' := [(ad (o+2), .inl (G.2.1, 17, .inl r.2.2.2.1))]) [2] rfl) hY rfl hl.1 rfl (lv_room (Nat.le_of_ble_eq_true rfl)) dX3_isGreater_19 ⟨Nat.zero_le _, Nat.zero_le _⟩ ?_
  refine lv_i2l hx hb dX3_isGreater_22 rfl ?_
  refine lv_iload_n hx hb dX3_isGreater_23 rfl (lv_at hl 2 rfl) ?_
  refine lv_i2l hx hb dX3_isGreater_24 rfl ?_
  refine lv_lconst (v := 1) hx hb dX3_isGreater_25 (by decide) ?_
  refine lv_ladd hx hb dX3_isGreater_26 ?_
  refine lv_lmul hx hb dX3_isGreater_27 ?_
  refine W.lcmp hx hb dX3_isGreater_28 ?_
  refine lv_if_le (tgt := 36) hx hb dX3_isGreater_29 (by decide) (fun h29_1 => ?_) (fun h29_1 => ?_)
  · refine lv_iconst (v := 0) hx hb dX3_isGreater_36 (by decide) ?_
    exact rd_zret hx hb hr hlk (by first | with_reducible rfl | (simp only [isG, sld_eq, h29_1, ↓reduceIte]; done)) rfl dX3_isGreater_37
  · refine lv_iconst (v := 1) hx hb dX3_isGreater_32 (by decide) ?_
    refine lv_goto (tgt := 37) hx hb dX3_isGreater_33 (by decide) ?_
    exact rd_zret hx hb hr hlk (by first | with_reducible rfl | (simp only [isG, sld_eq, h29_1, ↓reduceIte]; done)) rfl dX3_isGreater_37

set_option maxHeartbeats 4000000 in
set_option maxRecDepth 100000 in
theorem k_X3_placeFor (l : Launch) (G : GT) (ad : Nat → Nat) (o : Nat) (r : PriT) (w d : Int32) : Rd l yX3_placeFor wsX3_placeFor { frames := 2, cells := 0, slots := 0, locals := 44 } G (wPri G ad o r) [.ref (ad o), .int w, .int d] (.int (priPf r w d)) := by
  refine Met.ofW (cc := cX3_placeFor) (maxL := 4) (ret := (some .int)) (by decide) rfl ?_
  intro p e s m args below meth c s₁ B hml hv
  obtain ⟨rfl, hP, hY⟩ := hv
  have hx := B.exec
  have hb := B.bytes
  have hr := B.returns
  have hts := atoms_spec (ws := wsX3_placeFor) B.pre
  have hown : s.vm.findClass RX3 = some m.cls := findClass_of_methodNamed B.named
  have hlk := B.notSynchronized
  have CF : CallFix p m c cX3_placeFor 4 s _ wsX3_placeFor RX3 := ⟨hx, hb, hml, hown, hts⟩
  have hiX3 : ∀ w ∈ wsX30, w ∈ wsX3_placeFor := fun w h => (List.mem_cons_of_mem _ (List.mem_append_right _ h))
  have kf28 := hts (.fieldLink RX3 28 "ReservoirReed$Priorities" "held" "I") (List.mem_cons_of_mem _ (List.mem_append_left _ (List.mem_of_getElem? (i := 0) rfl)))
  have hl := lv_entry ([.ref (ad o), .int w, .int d]) (n := 4) (Nat.le_of_ble_eq_true rfl)
  rw [lg_entry_eq]
  generalize (lg_sl ([.ref (ad o), .int w, .int d]) ++ List.replicate (4 - (lg_sl ([.ref (ad o), .int w, .int d])).length) Slot.unset).toArray = ls at hl ⊢
  have hl : lv_has ls 4 [(0, .ref (ad o)), (1, .int w), (2, .int d)] := hl
  refine lv_aload_n hx hb dX3_placeFor_0 rfl (lv_at hl 0 rfl) ?_
  refine va_get (D := G.1) (ci := 3) (v := .int r.2.1) (C := RX3) (T := TX3) (N := 6) hx hb hts hiX3 hown hY.1 hP 0 rfl rfl 5 (by decide) kf28 (fun _ h9 => h9) rfl dX3_placeFor_1 ?_
  refine lv_istore_n (lv' := [(3, .int r.2.1), (0, .ref (ad o)), (1, .int w), (2, .int d)]) hx hb dX3_placeFor_4 rfl hl (by decide) rfl (fun ls hl => ?_)
  have loop1 : ∀ (fu : Nat) (j : Int32), (j.toInt - (0 : Int32).toInt).toNat < fu → pfL r w d fu j = pfL r w d (((r.2.1).toInt - (0 : Int32).toInt).toNat + 1) r.2.1 → ∀ (ls : Array Slot), lv_has ls 4 [(3, .int j), (0, .ref (ad o)), (1, .int w), (2, .int d)] → W p l e (headSpec wsX3_placeFor { frames := 2, cells := 0, slots := 0, locals := 44 }).room s m ([.ref (ad o), .int w, .int d] : List Value).toArray below meth c s.heap [] 0 0 (MQ below (RQ (.int (priPf r w d))) ([.ref (ad o), .int w, .int d] : List Value).toArray s 0 0 (fun _ => False)) (F0 m 5 ls []) := by
    intro fu
    induction fu with
    | zero => intro j hm; exact absurd hm (Nat.not_lt_zero _)
    | succ fu ih =>
      intro j hm hR1  ls hl
      refine lv_iload_n hx hb dX3_placeFor_5 rfl (lv_at hl 0 rfl) ?_
      refine lv_if_le (tgt := 27) hx hb dX3_placeFor_6 (by decide) (fun h6_1 => ?_) (fun h6_1 => ?_)
      · refine lv_iload_n hx hb dX3_placeFor_27 rfl (lv_at hl 0 rfl) ?_
        exact rd_iret hx hb hr hlk (by first | (simp only [priPf, sld_eq, ↓reduceIte]; rw [← hR1]; simp only [pfL, h6_1, ↓reduceIte]) | (rw [← hR1]; simp only [pfL, h6_1, ↓reduceIte])) dX3_placeFor_28
      · refine lv_aload_n hx hb dX3_placeFor_9 rfl (lv_at hl 1 rfl) ?_
        refine lv_iload_n hx hb dX3_placeFor_10 rfl (lv_at hl 2 rfl) ?_
        refine lv_iload_n hx hb dX3_placeFor_11 rfl (lv_at hl 3 rfl) ?_
        refine lv_iload_n hx hb dX3_placeFor_12 rfl (lv_at hl 0 rfl) ?_
        refine lv_iconst (v := 1) hx hb dX3_placeFor_13 (by decide) ?_
        refine lv_isub hx hb dX3_placeFor_14 ?_
        refine rdV (w0 := (wPri G ad o r)) (As := [.int w, .int d, .int (j - 1)]) (rest := []) CF (k_X3_isGreater l G ad o r w d (j - 1)) (cwV 3 hts gX3_placeFor_X3_isGreater rfl rfl rfl (by decide +kernel) ⟨Nat.le_of_ble_eq_true rfl, Nat.le_of_ble_eq_true rfl⟩) hP hY rfl rfl rfl hl.1 rfl (lv_room (Nat.le_of_ble_eq_true rfl)) dX3_placeFor_15 ⟨Nat.zero_le _, Nat.zero_le _⟩ ?_
        refine lv_if_eq (tgt := 27) hx hb dX3_placeFor_18 (by decide) (fun h18_2 => ?_) (fun h18_2 => ?_)
        · refine lv_iload_n hx hb dX3_placeFor_27 rfl (lv_at hl 0 rfl) ?_
          exact rd_iret hx hb hr hlk (by first | (simp only [priPf, sld_eq, ↓reduceIte]; rw [← hR1]; simp only [pfL, h6_1, eq_true h18_2, ↓reduceIte]) | (rw [← hR1]; simp only [pfL, h6_1, eq_true h18_2, ↓reduceIte])) dX3_placeFor_28
        · refine lv_iinc (v := j + (-1)) (lv' := [(3, .int (j + (-1))), (0, .ref (ad o)), (1, .int w), (2, .int d)]) hx hb dX3_placeFor_21 hl (k := 0) rfl rfl (by decide) rfl (fun ls hl => ?_)
          refine lv_goto (tgt := 5) hx hb dX3_placeFor_24 (by decide) ?_
          exact ih (j + (-1)) (ms_dn h6_1 hm) (by rw [← hR1]; simp only [pfL, h6_1, h18_2, ↓reduceIte])  ls (lv_sub hl [0, 1, 2, 3] rfl)
  exact loop1 _ r.2.1 (Nat.lt_succ_self _) rfl  ls (lv_sub hl [0, 1, 2, 3] rfl)

set_option maxHeartbeats 4000000 in
set_option maxRecDepth 100000 in
theorem k_X3_add (l : Launch) (G : GT) (ad : Nat → Nat) (o : Nat) (r : PriT) (ia wa ga da : Int32) : Wr l yX3_add wsX3_add { frames := 3, cells := 0, slots := 0, locals := 67 } G (wPri G ad o r) (wPri G ad o (priAdd r ia wa ga da)) [.ref (ad o), .int ia, .int wa, .int ga, .int da] none := by
  intro sz
  obtain ⟨k, hd, it, we, gr, di⟩ := r
  refine Met.ofW (cc := cX3_add) (maxL := 6) (ret := none) (by decide) rfl ?_
  intro p e s m args below meth c s₁ B hml hv
  obtain ⟨rfl, hsz, hP, hY, hD0⟩ := hv
  subst hsz
  have hD := hD0.self (sz := s.heap.size)
  generalize hAe : va_A (wPri G ad o (k, hd, it, we, gr, di)) s.heap.size = A at hD ⊢
  have hA : ∀ q : Nat, s.heap.size ≤ q → A q := fun q h => by rw [← hAe]; exact Or.inr h
  have hS : va_S A s.heap s.heap [] := va_S.rf
  have hx := B.exec
  have hb := B.bytes
  have hr := B.returns
  have hts := atoms_spec (ws := wsX3_add) B.pre
  have hown : s.vm.findClass RX3 = some m.cls := findClass_of_methodNamed B.named
  have hlk := B.notSynchronized
  have CF : CallFix p m c cX3_add 6 s _ wsX3_add RX3 := ⟨hx, hb, hml, hown, hts⟩
  have hiX3 : ∀ w ∈ wsX30, w ∈ wsX3_add := fun w h => (List.mem_cons_of_mem _ (List.mem_append_right _ h))
  have kf24 := hts (.fieldLink RX3 24 "ReservoirReed$Priorities" "size" "I") (List.mem_cons_of_mem _ (List.mem_append_left _ (List.mem_append_left _ (List.mem_of_getElem? (i := 0) rfl))))
  have kf28 := hts (.fieldLink RX3 28 "ReservoirReed$Priorities" "held" "I") (List.mem_cons_of_mem _ (List.mem_append_left _ (List.mem_append_left _ (List.mem_of_getElem? (i := 1) rfl))))
  have km1 := hts (.methodLink RX3 43 Lib.Math.min.name) (List.mem_cons_of_mem _ (List.mem_append_left _ (List.mem_append_left _ (List.mem_of_getElem? (i := 2) rfl))))
  have km2 := hts (.static Lib.Math.min.name) (List.mem_cons_of_mem _ (List.mem_append_left _ (List.mem_append_left _ (List.mem_of_getElem? (i := 3) rfl))))
  have km3 := hts (.initialized "java/lang/Math") (List.mem_cons_of_mem _ (List.mem_append_left _ (List.mem_append_left _ (List.mem_of_getElem? (i := 4) rfl))))
  have km4 := hts (.code Lib.Math.min.name Lib.Math.min.code 2 (some .int)) (List.mem_cons_of_mem _ (List.mem_append_left _ (List.mem_append_left _ (List.mem_of_getElem? (i := 5) rfl))))
  have kf9 := hts (.fieldLink RX3 9 "ReservoirReed$Priorities" "items" "[I") (List.mem_cons_of_mem _ (List.mem_append_left _ (List.mem_append_left _ (List.mem_of_getElem? (i := 6) rfl))))
  have knRX6 := hts (.initialized RX6) (List.mem_cons_of_mem _ (List.mem_append_left _ (List.mem_append_left _ (List.mem_of_getElem? (i := 20) rfl))))
  have ks_X6_insert := hts (.static yX6_insert) (List.mem_cons_of_mem _ (List.mem_append_left _ (List.mem_append_left _ (List.mem_of_getElem? (i := 22) rfl))))
  have kf15 := hts (.fieldLink RX3 15 "ReservoirReed$Priorities" "weights" "[I") (List.mem_cons_of_mem _ (List.mem_append_left _ (List.mem_append_left _ (List.mem_of_getElem? (i := 7) rfl))))
  have kf18 := hts (.fieldLink RX3 18 "ReservoirReed$Priorities" "groups" "[I") (List.mem_cons_of_mem _ (List.mem_append_left _ (List.mem_append_left _ (List.mem_of_getElem? (i := 8) rfl))))
  have kf21 := hts (.fieldLink RX3 21 "ReservoirReed$Priorities" "dice" "[I") (List.mem_cons_of_mem _ (List.mem_append_left _ (List.mem_append_left _ (List.mem_of_getElem? (i := 9) rfl))))
  have hl := lv_entry ([.ref (ad o), .int ia, .int wa, .int ga, .int da]) (n := 6) (Nat.le_of_ble_eq_true rfl)
  rw [lg_entry_eq]
  generalize (lg_sl ([.ref (ad o), .int ia, .int wa, .int ga, .int da]) ++ List.replicate (6 - (lg_sl ([.ref (ad o), .int ia, .int wa, .int ga, .int da])).length) Slot.unset).toArray = ls at hl ⊢
  have hl : lv_has ls 6 [(0, .ref (ad o)), (1, .int ia), (2, .int wa), (3, .int ga), (4, .int da)] := hl
  refine lv_aload_n hx hb dX3_add_0 rfl (lv_at hl 0 rfl) ?_
  refine lv_iload_n hx hb dX3_add_1 rfl (lv_at hl 2 rfl) ?_
  refine lv_iload hx hb dX3_add_2 (lv_at hl 4 rfl) ?_
  refine rdV (w0 := (wPri G ad o (k, hd, it, we, gr, di))) (As := [.int wa, .int da]) (rest := []) CF (k_X3_placeFor l G ad o (k, hd, it, we, gr, di) wa da) (cwV 2 hts gX3_add_X3_placeFor rfl rfl rfl (by decide +kernel) ⟨Nat.le_of_ble_eq_true rfl, Nat.le_of_ble_eq_true rfl⟩) hP hY rfl rfl rfl hl.1 rfl (lv_room (Nat.le_of_ble_eq_true rfl)) dX3_add_4 ⟨Nat.zero_le _, Nat.zero_le _⟩ ?_
  refine lv_istore (lv' := [(5, .int (priPf (k, hd, it, we, gr, di) wa da)), (0, .ref (ad o)), (1, .int ia), (2, .int wa), (3, .int ga), (4, .int da)]) hx hb dX3_add_7 hl (by decide) rfl (fun ls hl => ?_)
  refine lv_iload hx hb dX3_add_9 (lv_at hl 0 rfl) ?_
  refine lv_aload_n hx hb dX3_add_11 rfl (lv_at hl 1 rfl) ?_
  refine va_get (D := G.1) (ci := 3) (v := .int k) (C := RX3) (T := TX3) (N := 6) hx hb hts hiX3 hown hY.1 hP 0 rfl rfl 4 (by decide) kf24 (fun _ h9 => h9) rfl dX3_add_12 ?_
  refine lv_icmp_le (tgt := 19) hx hb dX3_add_15 (by decide) (fun h15_1 => ?_) (fun h15_1 => ?_)
  · refine lv_aload_n hx hb dX3_add_19 rfl (lv_at hl 1 rfl) ?_
    refine lv_aload_n hx hb dX3_add_20 rfl (lv_at hl 1 rfl) ?_
    refine va_get (D := G.1) (ci := 3) (v := .int hd) (C := RX3) (T := TX3) (N := 6) hx hb hts hiX3 hown hY.1 hP 0 rfl rfl 5 (by decide) kf28 (fun _ h9 => h9) rfl dX3_add_21 ?_
    refine lv_iconst (v := 1) hx hb dX3_add_24 (by decide) ?_
    refine lv_iadd hx hb dX3_add_25 ?_
    refine lv_aload_n hx hb dX3_add_26 rfl (lv_at hl 1 rfl) ?_
    refine va_get (D := G.1) (ci := 3) (v := .int k) (C := RX3) (T := TX3) (N := 6) hx hb hts hiX3 hown hY.1 hP 0 rfl rfl 4 (by decide) kf24 (fun _ h9 => h9) rfl dX3_add_27 ?_
    refine lv_iconst (v := 1) hx hb dX3_add_30 (by decide) ?_
    refine lv_iadd hx hb dX3_add_31 ?_
    refine va_mmin hx hb (hml.trans hl.1.symm) (index := 43) hown km1 km2 km3 km4 (Nat.le_of_ble_eq_true rfl) (Nat.le_of_ble_eq_true rfl) (Nat.zero_le _) (Nat.zero_le _) dX3_add_32 ?_
    refine va_put (D := G.1) (ci := 3) (v := .int (if (k + 1) < (hd + 1) then (k + 1) else (hd + 1))) (ty := .int) (C := RX3) (T := TX3) (N := 6) hx hb hts hiX3 tyX3 tyX3_ok nmX3 hown hY.1 hP hD hS 0 rfl rfl 5 (by decide) kf28 (fun _ h9 => h9) rfl (by decide +kernel) rfl rfl (Nat.le_of_ble_eq_true rfl) dX3_add_35 (fun H locs hP hD hS => ?_)
    have hP : va_P G.1 vwCl (wPri G ad o (k, if (k + 1) < (hd + 1) then (k + 1) else (hd + 1), it, we, gr, di)) H := hP
    have hD : va_D A (wPri G ad o (k, if (k + 1) < (hd + 1) then (k + 1) else (hd + 1), it, we, gr, di)) := hD
    refine lv_aload_n hx hb dX3_add_38 rfl (lv_at hl 1 rfl) ?_
    refine va_get (D := G.1) (ci := 3) (v := .ref (ad (o+1))) (C := RX3) (T := TX3) (N := 6) hx hb hts hiX3 hown hY.1 hP 0 rfl rfl 0 (by decide) kf9 (fun _ h9 => h9) rfl dX3_add_39 ?_
    refine lv_iload hx hb dX3_add_42 (lv_at hl 0 rfl) ?_
    refine lv_aload_n hx hb dX3_add_44 rfl (lv_at hl 1 rfl) ?_
    refine va_get (D := G.1) (ci := 3) (v := .int (if (k + 1) < (hd + 1) then (k + 1) else (hd + 1))) (C := RX3) (T := TX3) (N := 6) hx hb hts hiX3 hown hY.1 hP 0 rfl rfl 5 (by decide) kf28 (fun _ h9 => h9) rfl dX3_add_45 ?_
    refine lv_iload_n hx hb dX3_add_48 rfl (lv_at hl 2 rfl) ?_
    refine wrSN (List.take 1 (wPri G ad o (k, if (k + 1) < (hd + 1) then (k + 1) else (hd + 1), it, we, gr, di))) [(ad (o+1), .inl (G.2.1, 17, .inl it))] (List.drop 2 (wPri G ad o (k, if (k + 1) < (hd + 1) then (k + 1) else (hd + 1), it, we, gr, di))) [(ad (o+1), .inl (G.2.1, 17, .inl (ins_ 17 it (priPf (k, hd, it, we, gr, di) wa da) (if (k + 1) < (hd + 1) then (k + 1) else (hd + 1)) ia)))] (As := [.ref (ad (o+1)), .int (priPf (k, hd, it, we, gr, di) wa da), .int (if (k + 1) < (hd + 1) then (k + 1) else (hd + 1)), .int ia]) (rest := []) CF (k_X6_insert l G 17 (ad (o+1)) it (priPf (k, hd, it, we, gr, di) wa da) (if (k + 1) < (hd + 1) then (k + 1) else (hd + 1)) ia (by decide)) ⟨va_cnB 4 hts gX3_add_X6_insert_n48 rfl rfl rfl (hY.2.1 (.methodLinkNest RX3 48 yX6_insert RX6) (List.mem_of_getElem? (i := 30) rfl)) knRX6 (by decide +kernel) ⟨Nat.le_of_ble_eq_true rfl, Nat.le_of_ble_eq_true rfl⟩, ks_X6_insert, trivial⟩ hP hD hS hA hY (fst_arr _ _ _) rfl hl.1 rfl (lv_room (Nat.le_of_ble_eq_true rfl)) dX3_add_49 ⟨Nat.zero_le _, Nat.zero_le _⟩ (fun H locs hP hD hS => ?_)
    have hP : va_P G.1 vwCl (wPri G ad o (k, if (k + 1) < (hd + 1) then (k + 1) else (hd + 1), ins_ 17 it (priPf (k, hd, it, we, gr, di) wa da) (if (k + 1) < (hd + 1) then (k + 1) else (hd + 1)) ia, we, gr, di)) H := hP
    have hD : va_D A (wPri G ad o (k, if (k + 1) < (hd + 1) then (k + 1) else (hd + 1), ins_ 17 it (priPf (k, hd, it, we, gr, di) wa da) (if (k + 1) < (hd + 1) then (k + 1) else (hd + 1)) ia, we, gr, di)) := hD
    refine lv_aload_n hx hb dX3_add_52 rfl (lv_at hl 1 rfl) ?_
    refine va_get (D := G.1) (ci := 3) (v := .ref (ad (o+2))) (C := RX3) (T := TX3) (N := 6) hx hb hts hiX3 hown hY.1 hP 0 rfl rfl 1 (by decide) kf15 (fun _ h9 => h9) rfl dX3_add_53 ?_
    refine lv_iload hx hb dX3_add_56 (lv_at hl 0 rfl) ?_
    refine lv_aload_n hx hb dX3_add_58 rfl (lv_at hl 1 rfl) ?_
    refine va_get (D := G.1) (ci := 3) (v := .int (if (k + 1) < (hd + 1) then (k + 1) else (hd + 1))) (C := RX3) (T := TX3) (N := 6) hx hb hts hiX3 hown hY.1 hP 0 rfl rfl 5 (by decide) kf28 (fun _ h9 => h9) rfl dX3_add_59 ?_
    refine lv_iload_n hx hb dX3_add_62 rfl (lv_at hl 3 rfl) ?_
    refine wrSN (List.take 2 (wPri G ad o (k, if (k + 1) < (hd + 1) then (k + 1) else (hd + 1), ins_ 17 it (priPf (k, hd, it, we, gr, di) wa da) (if (k + 1) < (hd + 1) then (k + 1) else (hd + 1)) ia, we, gr, di))) [(ad (o+2), .inl (G.2.1, 17, .inl we))] (List.drop 3 (wPri G ad o (k, if (k + 1) < (hd + 1) then (k + 1) else (hd + 1), ins_ 17 it (priPf (k, hd, it, we, gr, di) wa da) (if (k + 1) < (hd + 1) then (k + 1) else (hd + 1)) ia, we, gr, di))) [(ad (o+2), .inl (G.2.1, 17, .inl (ins_ 17 we (priPf (k, hd, it, we, gr, di) wa da) (if (k + 1) < (hd + 1) then (k + 1) else (hd + 1)) wa)))] (As := [.ref (ad (o+2)), .int (priPf (k, hd, it, we, gr, di) wa da), .int (if (k + 1) < (hd + 1) then (k + 1) else (hd + 1)), .int wa]) (rest := []) CF (k_X6_insert l G 17 (ad (o+2)) we (priPf (k, hd, it, we, gr, di) wa da) (if (k + 1) < (hd + 1) then (k + 1) else (hd + 1)) wa (by decide)) ⟨va_cnB 4 hts gX3_add_X6_insert_n48 rfl rfl rfl (hY.2.1 (.methodLinkNest RX3 48 yX6_insert RX6) (List.mem_of_getElem? (i := 30) rfl)) knRX6 (by decide +kernel) ⟨Nat.le_of_ble_eq_true rfl, Nat.le_of_ble_eq_true rfl⟩, ks_X6_insert, trivial⟩ hP hD hS hA hY (fst_arr _ _ _) rfl hl.1 rfl (lv_room (Nat.le_of_ble_eq_true rfl)) dX3_add_63 ⟨Nat.zero_le _, Nat.zero_le _⟩ (fun H locs hP hD hS => ?_)
    have hP : va_P G.1 vwCl (wPri G ad o (k, if (k + 1) < (hd + 1) then (k + 1) else (hd + 1), ins_ 17 it (priPf (k, hd, it, we, gr, di) wa da) (if (k + 1) < (hd + 1) then (k + 1) else (hd + 1)) ia, ins_ 17 we (priPf (k, hd, it, we, gr, di) wa da) (if (k + 1) < (hd + 1) then (k + 1) else (hd + 1)) wa, gr, di)) H := hP
    have hD : va_D A (wPri G ad o (k, if (k + 1) < (hd + 1) then (k + 1) else (hd + 1), ins_ 17 it (priPf (k, hd, it, we, gr, di) wa da) (if (k + 1) < (hd + 1) then (k + 1) else (hd + 1)) ia, ins_ 17 we (priPf (k, hd, it, we, gr, di) wa da) (if (k + 1) < (hd + 1) then (k + 1) else (hd + 1)) wa, gr, di)) := hD
    refine lv_aload_n hx hb dX3_add_66 rfl (lv_at hl 1 rfl) ?_
    refine va_get (D := G.1) (ci := 3) (v := .ref (ad (o+3))) (C := RX3) (T := TX3) (N := 6) hx hb hts hiX3 hown hY.1 hP 0 rfl rfl 2 (by decide) kf18 (fun _ h9 => h9) rfl dX3_add_67 ?_
    refine lv_iload hx hb dX3_add_70 (lv_at hl 0 rfl) ?_
    refine lv_aload_n hx hb dX3_add_72 rfl (lv_at hl 1 rfl) ?_
    refine va_get (D := G.1) (ci := 3) (v := .int (if (k + 1) < (hd + 1) then (k + 1) else (hd + 1))) (C := RX3) (T := TX3) (N := 6) hx hb hts hiX3 hown hY.1 hP 0 rfl rfl 5 (by decide) kf28 (fun _ h9 => h9) rfl dX3_add_73 ?_
    refine lv_iload_n hx hb dX3_add_76 rfl (lv_at hl 4 rfl) ?_
    refine wrSN (List.take 3 (wPri G ad o (k, if (k + 1) < (hd + 1) then (k + 1) else (hd + 1), ins_ 17 it (priPf (k, hd, it, we, gr, di) wa da) (if (k + 1) < (hd + 1) then (k + 1) else (hd + 1)) ia, ins_ 17 we (priPf (k, hd, it, we, gr, di) wa da) (if (k + 1) < (hd + 1) then (k + 1) else (hd + 1)) wa, gr, di))) [(ad (o+3), .inl (G.2.1, 17, .inl gr))] (List.drop 4 (wPri G ad o (k, if (k + 1) < (hd + 1) then (k + 1) else (hd + 1), ins_ 17 it (priPf (k, hd, it, we, gr, di) wa da) (if (k + 1) < (hd + 1) then (k + 1) else (hd + 1)) ia, ins_ 17 we (priPf (k, hd, it, we, gr, di) wa da) (if (k + 1) < (hd + 1) then (k + 1) else (hd + 1)) wa, gr, di))) [(ad (o+3), .inl (G.2.1, 17, .inl (ins_ 17 gr (priPf (k, hd, it, we, gr, di) wa da) (if (k + 1) < (hd + 1) then (k + 1) else (hd + 1)) ga)))] (As := [.ref (ad (o+3)), .int (priPf (k, hd, it, we, gr, di) wa da), .int (if (k + 1) < (hd + 1) then (k + 1) else (hd + 1)), .int ga]) (rest := []) CF (k_X6_insert l G 17 (ad (o+3)) gr (priPf (k, hd, it, we, gr, di) wa da) (if (k + 1) < (hd + 1) then (k + 1) else (hd + 1)) ga (by decide)) ⟨va_cnB 4 hts gX3_add_X6_insert_n48 rfl rfl rfl (hY.2.1 (.methodLinkNest RX3 48 yX6_insert RX6) (List.mem_of_getElem? (i := 30) rfl)) knRX6 (by decide +kernel) ⟨Nat.le_of_ble_eq_true rfl, Nat.le_of_ble_eq_true rfl⟩, ks_X6_insert, trivial⟩ hP hD hS hA hY (fst_arr _ _ _) rfl hl.1 rfl (lv_room (Nat.le_of_ble_eq_true rfl)) dX3_add_77 ⟨Nat.zero_le _, Nat.zero_le _⟩ (fun H locs hP hD hS => ?_)
    have hP : va_P G.1 vwCl (wPri G ad o (k, if (k + 1) < (hd + 1) then (k + 1) else (hd + 1), ins_ 17 it (priPf (k, hd, it, we, gr, di) wa da) (if (k + 1) < (hd + 1) then (k + 1) else (hd + 1)) ia, ins_ 17 we (priPf (k, hd, it, we, gr, di) wa da) (if (k + 1) < (hd + 1) then (k + 1) else (hd + 1)) wa, ins_ 17 gr (priPf (k, hd, it, we, gr, di) wa da) (if (k + 1) < (hd + 1) then (k + 1) else (hd + 1)) ga, di)) H := hP
    have hD : va_D A (wPri G ad o (k, if (k + 1) < (hd + 1) then (k + 1) else (hd + 1), ins_ 17 it (priPf (k, hd, it, we, gr, di) wa da) (if (k + 1) < (hd + 1) then (k + 1) else (hd + 1)) ia, ins_ 17 we (priPf (k, hd, it, we, gr, di) wa da) (if (k + 1) < (hd + 1) then (k + 1) else (hd + 1)) wa, ins_ 17 gr (priPf (k, hd, it, we, gr, di) wa da) (if (k + 1) < (hd + 1) then (k + 1) else (hd + 1)) ga, di)) := hD
    refine lv_aload_n hx hb dX3_add_80 rfl (lv_at hl 1 rfl) ?_
    refine va_get (D := G.1) (ci := 3) (v := .ref (ad (o+4))) (C := RX3) (T := TX3) (N := 6) hx hb hts hiX3 hown hY.1 hP 0 rfl rfl 3 (by decide) kf21 (fun _ h9 => h9) rfl dX3_add_81 ?_
    refine lv_iload hx hb dX3_add_84 (lv_at hl 0 rfl) ?_
    refine lv_aload_n hx hb dX3_add_86 rfl (lv_at hl 1 rfl) ?_
    refine va_get (D := G.1) (ci := 3) (v := .int (if (k + 1) < (hd + 1) then (k + 1) else (hd + 1))) (C := RX3) (T := TX3) (N := 6) hx hb hts hiX3 hown hY.1 hP 0 rfl rfl 5 (by decide) kf28 (fun _ h9 => h9) rfl dX3_add_87 ?_
    refine lv_iload hx hb dX3_add_90 (lv_at hl 5 rfl) ?_
    refine wrSN (List.take 4 (wPri G ad o (k, if (k + 1) < (hd + 1) then (k + 1) else (hd + 1), ins_ 17 it (priPf (k, hd, it, we, gr, di) wa da) (if (k + 1) < (hd + 1) then (k + 1) else (hd + 1)) ia, ins_ 17 we (priPf (k, hd, it, we, gr, di) wa da) (if (k + 1) < (hd + 1) then (k + 1) else (hd + 1)) wa, ins_ 17 gr (priPf (k, hd, it, we, gr, di) wa da) (if (k + 1) < (hd + 1) then (k + 1) else (hd + 1)) ga, di))) [(ad (o+4), .inl (G.2.1, 17, .inl di))] [] [(ad (o+4), .inl (G.2.1, 17, .inl (ins_ 17 di (priPf (k, hd, it, we, gr, di) wa da) (if (k + 1) < (hd + 1) then (k + 1) else (hd + 1)) da)))] (As := [.ref (ad (o+4)), .int (priPf (k, hd, it, we, gr, di) wa da), .int (if (k + 1) < (hd + 1) then (k + 1) else (hd + 1)), .int da]) (rest := []) CF (k_X6_insert l G 17 (ad (o+4)) di (priPf (k, hd, it, we, gr, di) wa da) (if (k + 1) < (hd + 1) then (k + 1) else (hd + 1)) da (by decide)) ⟨va_cnB 4 hts gX3_add_X6_insert_n48 rfl rfl rfl (hY.2.1 (.methodLinkNest RX3 48 yX6_insert RX6) (List.mem_of_getElem? (i := 30) rfl)) knRX6 (by decide +kernel) ⟨Nat.le_of_ble_eq_true rfl, Nat.le_of_ble_eq_true rfl⟩, ks_X6_insert, trivial⟩ hP hD hS hA hY (fst_arr _ _ _) rfl hl.1 rfl (lv_room (Nat.le_of_ble_eq_true rfl)) dX3_add_92 ⟨Nat.zero_le _, Nat.zero_le _⟩ (fun H locs hP hD hS => ?_)
    have hP : va_P G.1 vwCl (wPri G ad o (k, if (k + 1) < (hd + 1) then (k + 1) else (hd + 1), ins_ 17 it (priPf (k, hd, it, we, gr, di) wa da) (if (k + 1) < (hd + 1) then (k + 1) else (hd + 1)) ia, ins_ 17 we (priPf (k, hd, it, we, gr, di) wa da) (if (k + 1) < (hd + 1) then (k + 1) else (hd + 1)) wa, ins_ 17 gr (priPf (k, hd, it, we, gr, di) wa da) (if (k + 1) < (hd + 1) then (k + 1) else (hd + 1)) ga, ins_ 17 di (priPf (k, hd, it, we, gr, di) wa da) (if (k + 1) < (hd + 1) then (k + 1) else (hd + 1)) da)) H := hP
    have hD : va_D A (wPri G ad o (k, if (k + 1) < (hd + 1) then (k + 1) else (hd + 1), ins_ 17 it (priPf (k, hd, it, we, gr, di) wa da) (if (k + 1) < (hd + 1) then (k + 1) else (hd + 1)) ia, ins_ 17 we (priPf (k, hd, it, we, gr, di) wa da) (if (k + 1) < (hd + 1) then (k + 1) else (hd + 1)) wa, ins_ 17 gr (priPf (k, hd, it, we, gr, di) wa da) (if (k + 1) < (hd + 1) then (k + 1) else (hd + 1)) ga, ins_ 17 di (priPf (k, hd, it, we, gr, di) wa da) (if (k + 1) < (hd + 1) then (k + 1) else (hd + 1)) da)) := hD
    exact wr_vret hx hb hr hlk hS hP (by first | with_reducible rfl | (simp only [priAdd, sld_eq, h15_1, ↓reduceIte]; done)) dX3_add_95
  · exact wr_vret hx hb hr hlk hS hP (by first | with_reducible rfl | (simp only [priAdd, sld_eq, h15_1, ↓reduceIte]; done)) dX3_add_18

set_option maxHeartbeats 4000000 in
set_option maxRecDepth 100000 in
theorem k_X3_sampled (l : Launch) (G : GT) (ad : Nat → Nat) (o : Nat) (r : PriT) : Rd l yX3_sampled wsX3_sampled { frames := 2, cells := 0, slots := 0, locals := 30 } G (wPri G ad o r) [.ref (ad o)] (.int (priSampled r)) := by
  refine Met.ofW (cc := cX3_sampled) (maxL := 1) (ret := (some .int)) (by decide) rfl ?_
  intro p e s m args below meth c s₁ B hml hv
  obtain ⟨rfl, hP, hY⟩ := hv
  have hx := B.exec
  have hb := B.bytes
  have hr := B.returns
  have hts := atoms_spec (ws := wsX3_sampled) B.pre
  have hown : s.vm.findClass RX3 = some m.cls := findClass_of_methodNamed B.named
  have hlk := B.notSynchronized
  have CF : CallFix p m c cX3_sampled 1 s _ wsX3_sampled RX3 := ⟨hx, hb, hml, hown, hts⟩
  have hiX3 : ∀ w ∈ wsX30, w ∈ wsX3_sampled := fun w h => (List.mem_cons_of_mem _ (List.mem_append_right _ h))
  have kf28 := hts (.fieldLink RX3 28 "ReservoirReed$Priorities" "held" "I") (List.mem_cons_of_mem _ (List.mem_append_left _ (List.mem_of_getElem? (i := 0) rfl)))
  have kf24 := hts (.fieldLink RX3 24 "ReservoirReed$Priorities" "size" "I") (List.mem_cons_of_mem _ (List.mem_append_left _ (List.mem_of_getElem? (i := 1) rfl)))
  have km1 := hts (.methodLink RX3 43 Lib.Math.min.name) (List.mem_cons_of_mem _ (List.mem_append_left _ (List.mem_of_getElem? (i := 2) rfl)))
  have km2 := hts (.static Lib.Math.min.name) (List.mem_cons_of_mem _ (List.mem_append_left _ (List.mem_of_getElem? (i := 3) rfl)))
  have km3 := hts (.initialized "java/lang/Math") (List.mem_cons_of_mem _ (List.mem_append_left _ (List.mem_of_getElem? (i := 4) rfl)))
  have km4 := hts (.code Lib.Math.min.name Lib.Math.min.code 2 (some .int)) (List.mem_cons_of_mem _ (List.mem_append_left _ (List.mem_of_getElem? (i := 5) rfl)))
  have hl := lv_entry ([.ref (ad o)]) (n := 1) (Nat.le_of_ble_eq_true rfl)
  rw [lg_entry_eq]
  generalize (lg_sl ([.ref (ad o)]) ++ List.replicate (1 - (lg_sl ([.ref (ad o)])).length) Slot.unset).toArray = ls at hl ⊢
  have hl : lv_has ls 1 [(0, .ref (ad o))] := hl
  refine lv_aload_n hx hb dX3_sampled_0 rfl (lv_at hl 0 rfl) ?_
  refine va_get (D := G.1) (ci := 3) (v := .int r.2.1) (C := RX3) (T := TX3) (N := 6) hx hb hts hiX3 hown hY.1 hP 0 rfl rfl 5 (by decide) kf28 (fun _ h9 => h9) rfl dX3_sampled_1 ?_
  refine lv_aload_n hx hb dX3_sampled_4 rfl (lv_at hl 0 rfl) ?_
  refine va_get (D := G.1) (ci := 3) (v := .int r.1) (C := RX3) (T := TX3) (N := 6) hx hb hts hiX3 hown hY.1 hP 0 rfl rfl 4 (by decide) kf24 (fun _ h9 => h9) rfl dX3_sampled_5 ?_
  refine va_mmin hx hb (hml.trans hl.1.symm) (index := 43) hown km1 km2 km3 km4 (Nat.le_of_ble_eq_true rfl) (Nat.le_of_ble_eq_true rfl) (Nat.zero_le _) (Nat.zero_le _) dX3_sampled_8 ?_
  exact rd_iret hx hb hr hlk (by first | with_reducible rfl | (simp only [priSampled, sld_eq, ↓reduceIte]; done)) dX3_sampled_11

set_option maxHeartbeats 4000000 in
set_option maxRecDepth 100000 in
theorem k_X3_bound (l : Launch) (G : GT) (ad : Nat → Nat) (o : Nat) (r : PriT) : Rd l yX3_bound wsX3_bound { frames := 1, cells := 0, slots := 0, locals := 23 } G (wPri G ad o r) [.ref (ad o)] (.long (priBound r)) := by
  refine Met.ofW (cc := cX3_bound) (maxL := 3) (ret := (some .long)) (by decide) rfl ?_
  intro p e s m args below meth c s₁ B hml hv
  obtain ⟨rfl, hP, hY⟩ := hv
  have hx := B.exec
  have hb := B.bytes
  have hr := B.returns
  have hts := atoms_spec (ws := wsX3_bound) B.pre
  have hown : s.vm.findClass RX3 = some m.cls := findClass_of_methodNamed B.named
  have hlk := B.notSynchronized
  have CF : CallFix p m c cX3_bound 3 s _ wsX3_bound RX3 := ⟨hx, hb, hml, hown, hts⟩
  have hiX3 : ∀ w ∈ wsX30, w ∈ wsX3_bound := fun w h => (List.mem_cons_of_mem _ (List.mem_append_right _ h))
  have kf28 := hts (.fieldLink RX3 28 "ReservoirReed$Priorities" "held" "I") (List.mem_cons_of_mem _ (List.mem_append_left _ (List.mem_of_getElem? (i := 0) rfl)))
  have kf24 := hts (.fieldLink RX3 24 "ReservoirReed$Priorities" "size" "I") (List.mem_cons_of_mem _ (List.mem_append_left _ (List.mem_of_getElem? (i := 1) rfl)))
  have kf15 := hts (.fieldLink RX3 15 "ReservoirReed$Priorities" "weights" "[I") (List.mem_cons_of_mem _ (List.mem_append_left _ (List.mem_of_getElem? (i := 2) rfl)))
  have knRX6 := hts (.initialized RX6) (List.mem_cons_of_mem _ (List.mem_append_left _ (List.mem_of_getElem? (i := 5) rfl)))
  have ks_X6_at := hts (.static yX6_at) (List.mem_cons_of_mem _ (List.mem_append_left _ (List.mem_of_getElem? (i := 4) rfl)))
  have kf21 := hts (.fieldLink RX3 21 "ReservoirReed$Priorities" "dice" "[I") (List.mem_cons_of_mem _ (List.mem_append_left _ (List.mem_of_getElem? (i := 3) rfl)))
  have ks_X6_quotient := hts (.static yX6_quotient) (List.mem_cons_of_mem _ (List.mem_append_left _ (List.mem_of_getElem? (i := 7) rfl)))
  have hl := lv_entry ([.ref (ad o)]) (n := 3) (Nat.le_of_ble_eq_true rfl)
  rw [lg_entry_eq]
  generalize (lg_sl ([.ref (ad o)]) ++ List.replicate (3 - (lg_sl ([.ref (ad o)])).length) Slot.unset).toArray = ls at hl ⊢
  have hl : lv_has ls 3 [(0, .ref (ad o))] := hl
  refine lv_aload_n hx hb dX3_bound_0 rfl (lv_at hl 0 rfl) ?_
  refine va_get (D := G.1) (ci := 3) (v := .int r.2.1) (C := RX3) (T := TX3) (N := 6) hx hb hts hiX3 hown hY.1 hP 0 rfl rfl 5 (by decide) kf28 (fun _ h9 => h9) rfl dX3_bound_1 ?_
  refine lv_aload_n hx hb dX3_bound_4 rfl (lv_at hl 0 rfl) ?_
  refine va_get (D := G.1) (ci := 3) (v := .int r.1) (C := RX3) (T := TX3) (N := 6) hx hb hts hiX3 hown hY.1 hP 0 rfl rfl 4 (by decide) kf24 (fun _ h9 => h9) rfl dX3_bound_5 ?_
  refine lv_icmp_gt (tgt := 13) hx hb dX3_bound_8 (by decide) (fun h8_1 => ?_) (fun h8_1 => ?_)
  · refine lv_aload_n hx hb dX3_bound_13 rfl (lv_at hl 0 rfl) ?_
    refine va_get (D := G.1) (ci := 3) (v := .ref (ad (o+2))) (C := RX3) (T := TX3) (N := 6) hx hb hts hiX3 hown hY.1 hP 0 rfl rfl 1 (by decide) kf15 (fun _ h9 => h9) rfl dX3_bound_14 ?_
    refine lv_aload_n hx hb dX3_bound_17 rfl (lv_at hl 0 rfl) ?_
    refine va_get (D := G.1) (ci := 3) (v := .int r.1) (C := RX3) (T := TX3) (N := 6) hx hb hts hiX3 hown hY.1 hP 0 rfl rfl 4 (by decide) kf24 (fun _ h9 => h9) rfl dX3_bound_18 ?_
    refine rdSN (w0 := [(ad (o+2), .inl (G.2.1, 17, .inl r.2.2.2.1))]) (As := [.ref (ad (o+2)), .int r.1]) (rest := []) CF (k_X6_at l G 17 (ad (o+2)) r.2.2.2.1 r.1 (by decide)) ⟨va_cnB 2 hts gX3_bound_X6_at_n31 rfl rfl rfl (hY.2.1 (.methodLinkNest RX3 31 yX6_at RX6) (List.mem_of_getElem? (i := 29) rfl)) knRX6 (by decide +kernel) ⟨Nat.le_of_ble_eq_true rfl, Nat.le_of_ble_eq_true rfl⟩, ks_X6_at, trivial⟩ (hP.sub (ws' := [(ad (o+2), .inl (G.2.1, 17, .inl r.2.2.2.1))]) [2] rfl) hY rfl hl.1 rfl (lv_room (Nat.le_of_ble_eq_true rfl)) dX3_bound_21 ⟨Nat.zero_le _, Nat.zero_le _⟩ ?_
    refine lv_i2l hx hb dX3_bound_24 rfl ?_
    refine lv_lstore_n (lv' := [(1, .long ((at_ 17 r.2.2.2.1 r.1).toInt64)), (0, .ref (ad o))]) hx hb dX3_bound_25 rfl hl (by decide) rfl (fun ls hl => ?_)
    refine lv_lload_n hx hb dX3_bound_26 rfl (lv_at hl 0 rfl) ?_
    refine lv_bipush (v := 31) hx hb dX3_bound_27 (by decide) ?_
    refine lv_lshl hx hb dX3_bound_29 rfl ?_
    refine lv_aload_n hx hb dX3_bound_30 rfl (lv_at hl 1 rfl) ?_
    refine va_get (D := G.1) (ci := 3) (v := .ref (ad (o+4))) (C := RX3) (T := TX3) (N := 6) hx hb hts hiX3 hown hY.1 hP 0 rfl rfl 3 (by decide) kf21 (fun _ h9 => h9) rfl dX3_bound_31 ?_
    refine lv_aload_n hx hb dX3_bound_34 rfl (lv_at hl 1 rfl) ?_
    refine va_get (D := G.1) (ci := 3) (v := .int r.1) (C := RX3) (T := TX3) (N := 6) hx hb hts hiX3 hown hY.1 hP 0 rfl rfl 4 (by decide) kf24 (fun _ h9 => h9) rfl dX3_bound_35 ?_
    refine rdSN (w0 := [(ad (o+4), .inl (G.2.1, 17, .inl r.2.2.2.2.2))]) (As := [.ref (ad (o+4)), .int r.1]) (rest := [.long (((at_ 17 r.2.2.2.1 r.1).toInt64) <<< ((31 : Int32).toInt64 &&& 63))]) CF (k_X6_at l G 17 (ad (o+4)) r.2.2.2.2.2 r.1 (by decide)) ⟨va_cnB 2 hts gX3_bound_X6_at_n31 rfl rfl rfl (hY.2.1 (.methodLinkNest RX3 31 yX6_at RX6) (List.mem_of_getElem? (i := 29) rfl)) knRX6 (by decide +kernel) ⟨Nat.le_of_ble_eq_true rfl, Nat.le_of_ble_eq_true rfl⟩, ks_X6_at, trivial⟩ (hP.sub (ws' := [(ad (o+4), .inl (G.2.1, 17, .inl r.2.2.2.2.2))]) [4] rfl) hY rfl hl.1 rfl (lv_room (Nat.le_of_ble_eq_true rfl)) dX3_bound_38 ⟨Nat.zero_le _, Nat.zero_le _⟩ ?_
    refine lv_i2l hx hb dX3_bound_41 rfl ?_
    refine lv_lconst (v := 1) hx hb dX3_bound_42 (by decide) ?_
    refine lv_ladd hx hb dX3_bound_43 ?_
    refine rdSN (w0 := ([] : va_W)) (As := [.long (((at_ 17 r.2.2.2.1 r.1).toInt64) <<< ((31 : Int32).toInt64 &&& 63)), .long (((at_ 17 r.2.2.2.2.2 r.1).toInt64) + 1)]) (rest := []) CF (k_X6_quotient l G (((at_ 17 r.2.2.2.1 r.1).toInt64) <<< ((31 : Int32).toInt64 &&& 63)) (((at_ 17 r.2.2.2.2.2 r.1).toInt64) + 1)) ⟨va_cnB 2 hts gX3_bound_X6_quotient_n56 rfl rfl rfl (hY.2.1 (.methodLinkNest RX3 56 yX6_quotient RX6) (List.mem_of_getElem? (i := 31) rfl)) knRX6 (by decide +kernel) ⟨Nat.le_of_ble_eq_true rfl, Nat.le_of_ble_eq_true rfl⟩, ks_X6_quotient, trivial⟩ va_P_nil hY rfl hl.1 rfl (lv_room (Nat.le_of_ble_eq_true rfl)) dX3_bound_44 ⟨Nat.zero_le _, Nat.zero_le _⟩ ?_
    exact rd_lret hx hb hr hlk (by first | with_reducible rfl | (simp only [priBound, sld_eq, h8_1, ↓reduceIte]; done)) dX3_bound_47
  · refine lv_lconst (v := 0) hx hb dX3_bound_11 (by decide) ?_
    exact rd_lret hx hb hr hlk (by first | with_reducible rfl | (simp only [priBound, sld_eq, h8_1, ↓reduceIte]; done)) dX3_bound_12

set_option maxHeartbeats 4000000 in
set_option maxRecDepth 100000 in
theorem k_X3_estimateAt (l : Launch) (G : GT) (ad : Nat → Nat) (o : Nat) (r : PriT) (j : Int32) : Rd l yX3_estimateAt wsX3_estimateAt { frames := 2, cells := 0, slots := 0, locals := 45 } G (wPri G ad o r) [.ref (ad o), .int j] (.long (priEst r j)) := by
  refine Met.ofW (cc := cX3_estimateAt) (maxL := 2) (ret := (some .long)) (by decide) rfl ?_
  intro p e s m args below meth c s₁ B hml hv
  obtain ⟨rfl, hP, hY⟩ := hv
  have hx := B.exec
  have hb := B.bytes
  have hr := B.returns
  have hts := atoms_spec (ws := wsX3_estimateAt) B.pre
  have hown : s.vm.findClass RX3 = some m.cls := findClass_of_methodNamed B.named
  have hlk := B.notSynchronized
  have CF : CallFix p m c cX3_estimateAt 2 s _ wsX3_estimateAt RX3 := ⟨hx, hb, hml, hown, hts⟩
  have hiX3 : ∀ w ∈ wsX30, w ∈ wsX3_estimateAt := fun w h => (List.mem_cons_of_mem _ (List.mem_append_right _ h))
  have kf15 := hts (.fieldLink RX3 15 "ReservoirReed$Priorities" "weights" "[I") (List.mem_cons_of_mem _ (List.mem_append_left _ (List.mem_of_getElem? (i := 0) rfl)))
  have knRX6 := hts (.initialized RX6) (List.mem_cons_of_mem _ (List.mem_append_left _ (List.mem_of_getElem? (i := 6) rfl)))
  have ks_X6_at := hts (.static yX6_at) (List.mem_cons_of_mem _ (List.mem_append_left _ (List.mem_of_getElem? (i := 5) rfl)))
  have km1 := hts (.methodLink RX3 64 Lib.MathLoose.max_long.x) (List.mem_cons_of_mem _ (List.mem_append_left _ (List.mem_of_getElem? (i := 1) rfl)))
  have km2 := hts (.static Lib.MathLoose.max_long.x) (List.mem_cons_of_mem _ (List.mem_append_left _ (List.mem_of_getElem? (i := 2) rfl)))
  have km3 := hts (.initialized "java/lang/Math") (List.mem_cons_of_mem _ (List.mem_append_left _ (List.mem_of_getElem? (i := 3) rfl)))
  have km4 := hts (.code Lib.MathLoose.max_long.x Lib.MathLoose.max_long.code 4 (some .long)) (List.mem_cons_of_mem _ (List.mem_append_left _ (List.mem_of_getElem? (i := 4) rfl)))
  have hl := lv_entry ([.ref (ad o), .int j]) (n := 2) (Nat.le_of_ble_eq_true rfl)
  rw [lg_entry_eq]
  generalize (lg_sl ([.ref (ad o), .int j]) ++ List.replicate (2 - (lg_sl ([.ref (ad o), .int j])).length) Slot.unset).toArray = ls at hl ⊢
  have hl : lv_has ls 2 [(0, .ref (ad o)), (1, .int j)] := hl
  refine lv_aload_n hx hb dX3_estimateAt_0 rfl (lv_at hl 0 rfl) ?_
  refine va_get (D := G.1) (ci := 3) (v := .ref (ad (o+2))) (C := RX3) (T := TX3) (N := 6) hx hb hts hiX3 hown hY.1 hP 0 rfl rfl 1 (by decide) kf15 (fun _ h9 => h9) rfl dX3_estimateAt_1 ?_
  refine lv_iload_n hx hb dX3_estimateAt_4 rfl (lv_at hl 1 rfl) ?_
  refine rdSN (w0 := [(ad (o+2), .inl (G.2.1, 17, .inl r.2.2.2.1))]) (As := [.ref (ad (o+2)), .int j]) (rest := []) CF (k_X6_at l G 17 (ad (o+2)) r.2.2.2.1 j (by decide)) ⟨va_cnB 2 hts gX3_estimateAt_X6_at_n31 rfl rfl rfl (hY.2.1 (.methodLinkNest RX3 31 yX6_at RX6) (List.mem_of_getElem? (i := 29) rfl)) knRX6 (by decide +kernel) ⟨Nat.le_of_ble_eq_true rfl, Nat.le_of_ble_eq_true rfl⟩, ks_X6_at, trivial⟩ (hP.sub (ws' := [(ad (o+2), .inl (G.2.1, 17, .inl r.2.2.2.1))]) [2] rfl) hY rfl hl.1 rfl (lv_room (Nat.le_of_ble_eq_true rfl)) dX3_estimateAt_5 ⟨Nat.zero_le _, Nat.zero_le _⟩ ?_
  refine lv_i2l hx hb dX3_estimateAt_8 rfl ?_
  refine lv_aload_n hx hb dX3_estimateAt_9 rfl (lv_at hl 0 rfl) ?_
  refine rdV (w0 := (wPri G ad o r)) (As := []) (rest := [.long ((at_ 17 r.2.2.2.1 j).toInt64)]) CF (k_X3_bound l G ad o r) (cwV 0 hts gX3_estimateAt_X3_bound rfl rfl rfl (by decide +kernel) ⟨Nat.le_of_ble_eq_true rfl, Nat.le_of_ble_eq_true rfl⟩) hP hY rfl rfl rfl hl.1 rfl (lv_room (Nat.le_of_ble_eq_true rfl)) dX3_estimateAt_10 ⟨Nat.zero_le _, Nat.zero_le _⟩ ?_
  refine va_mmax_long hx hb (hml.trans hl.1.symm) (index := 64) hown km1 km2 km3 km4 (Nat.le_of_ble_eq_true rfl) (Nat.le_of_ble_eq_true rfl) (Nat.zero_le _) (Nat.zero_le _) dX3_estimateAt_13 ?_
  exact rd_lret hx hb hr hlk (by first | with_reducible rfl | (simp only [priEst, sld_eq, ↓reduceIte]; done)) dX3_estimateAt_16

set_option maxHeartbeats 4000000 in
set_option maxRecDepth 100000 in
theorem k_X3_estimatedSum (l : Launch) (G : GT) (ad : Nat → Nat) (o : Nat) (r : PriT) (g : Int32) : Rd l yX3_estimatedSum wsX3_estimatedSum { frames := 3, cells := 0, slots := 0, locals := 66 } G (wPri G ad o r) [.ref (ad o), .int g] (.long (priEstSum r g)) := by
  refine Met.ofW (cc := cX3_estimatedSum) (maxL := 6) (ret := (some .long)) (by decide) rfl ?_
  intro p e s m args below meth c s₁ B hml hv
  obtain ⟨rfl, hP, hY⟩ := hv
  have hx := B.exec
  have hb := B.bytes
  have hr := B.returns
  have hts := atoms_spec (ws := wsX3_estimatedSum) B.pre
  have hown : s.vm.findClass RX3 = some m.cls := findClass_of_methodNamed B.named
  have hlk := B.notSynchronized
  have CF : CallFix p m c cX3_estimatedSum 6 s _ wsX3_estimatedSum RX3 := ⟨hx, hb, hml, hown, hts⟩
  have hiX3 : ∀ w ∈ wsX30, w ∈ wsX3_estimatedSum := fun w h => (List.mem_cons_of_mem _ (List.mem_append_right _ h))
  have kf18 := hts (.fieldLink RX3 18 "ReservoirReed$Priorities" "groups" "[I") (List.mem_cons_of_mem _ (List.mem_append_left _ (List.mem_append_left _ (List.mem_of_getElem? (i := 0) rfl))))
  have knRX6 := hts (.initialized RX6) (List.mem_cons_of_mem _ (List.mem_append_left _ (List.mem_append_left _ (List.mem_of_getElem? (i := 13) rfl))))
  have ks_X6_at := hts (.static yX6_at) (List.mem_cons_of_mem _ (List.mem_append_left _ (List.mem_append_left _ (List.mem_of_getElem? (i := 12) rfl))))
  have hl := lv_entry ([.ref (ad o), .int g]) (n := 6) (Nat.le_of_ble_eq_true rfl)
  rw [lg_entry_eq]
  generalize (lg_sl ([.ref (ad o), .int g]) ++ List.replicate (6 - (lg_sl ([.ref (ad o), .int g])).length) Slot.unset).toArray = ls at hl ⊢
  have hl : lv_has ls 6 [(0, .ref (ad o)), (1, .int g)] := hl
  refine lv_lconst (v := 0) hx hb dX3_estimatedSum_0 (by decide) ?_
  refine lv_lstore_n (lv' := [(2, .long 0), (0, .ref (ad o)), (1, .int g)]) hx hb dX3_estimatedSum_1 rfl hl (by decide) rfl (fun ls hl => ?_)
  refine lv_aload_n hx hb dX3_estimatedSum_2 rfl (lv_at hl 1 rfl) ?_
  refine rdV (w0 := (wPri G ad o r)) (As := []) (rest := []) CF (k_X3_sampled l G ad o r) (cwV 0 hts gX3_estimatedSum_X3_sampled rfl rfl rfl (by decide +kernel) ⟨Nat.le_of_ble_eq_true rfl, Nat.le_of_ble_eq_true rfl⟩) hP hY rfl rfl rfl hl.1 rfl (lv_room (Nat.le_of_ble_eq_true rfl)) dX3_estimatedSum_3 ⟨Nat.zero_le _, Nat.zero_le _⟩ ?_
  refine lv_istore (lv' := [(4, .int (priSampled r)), (2, .long 0), (0, .ref (ad o)), (1, .int g)]) hx hb dX3_estimatedSum_6 hl (by decide) rfl (fun ls hl => ?_)
  refine lv_iconst (v := 0) hx hb dX3_estimatedSum_8 (by decide) ?_
  refine lv_istore (lv' := [(5, .int 0), (4, .int (priSampled r)), (2, .long 0), (0, .ref (ad o)), (1, .int g)]) hx hb dX3_estimatedSum_9 hl (by decide) rfl (fun ls hl => ?_)
  have loop1 : ∀ (fu : Nat) (x : Int64) (i : Int32), ((priSampled r).toInt - i.toInt).toNat < fu → esL r g (priSampled r) fu x i = esL r g (priSampled r) (((priSampled r).toInt - ((0 : Int32)).toInt).toNat + 1) 0 0 → ∀ (ls : Array Slot), lv_has ls 6 [(5, .int i), (2, .long x), (4, .int (priSampled r)), (0, .ref (ad o)), (1, .int g)] → W p l e (headSpec wsX3_estimatedSum { frames := 3, cells := 0, slots := 0, locals := 66 }).room s m ([.ref (ad o), .int g] : List Value).toArray below meth c s.heap [] 0 0 (MQ below (RQ (.long (priEstSum r g))) ([.ref (ad o), .int g] : List Value).toArray s 0 0 (fun _ => False)) (F0 m 11 ls []) := by
    intro fu
    induction fu with
    | zero => intro x i hm; exact absurd hm (Nat.not_lt_zero _)
    | succ fu ih =>
      intro x i hm hR1  ls hl
      refine lv_iload hx hb dX3_estimatedSum_11 (lv_at hl 0 rfl) ?_
      refine lv_iload hx hb dX3_estimatedSum_13 (lv_at hl 2 rfl) ?_
      refine lv_icmp_ge (tgt := 46) hx hb dX3_estimatedSum_15 (by decide) (fun h15_1 => ?_) (fun h15_1 => ?_)
      · refine lv_lload_n hx hb dX3_estimatedSum_46 rfl (lv_at hl 1 rfl) ?_
        exact rd_lret hx hb hr hlk (by first | (simp only [priEstSum, sld_eq, ↓reduceIte]; rw [← hR1]; simp only [esL, h15_1, ↓reduceIte]) | (rw [← hR1]; simp only [esL, h15_1, ↓reduceIte])) dX3_estimatedSum_47
      · refine lv_aload_n hx hb dX3_estimatedSum_18 rfl (lv_at hl 3 rfl) ?_
        refine va_get (D := G.1) (ci := 3) (v := .ref (ad (o+3))) (C := RX3) (T := TX3) (N := 6) hx hb hts hiX3 hown hY.1 hP 0 rfl rfl 2 (by decide) kf18 (fun _ h9 => h9) rfl dX3_estimatedSum_19 ?_
        refine lv_iload hx hb dX3_estimatedSum_22 (lv_at hl 0 rfl) ?_
        refine rdSN (w0 := [(ad (o+3), .inl (G.2.1, 17, .inl r.2.2.2.2.1))]) (As := [.ref (ad (o+3)), .int i]) (rest := []) CF (k_X6_at l G 17 (ad (o+3)) r.2.2.2.2.1 i (by decide)) ⟨va_cnB 2 hts gX3_estimatedSum_X6_at_n31 rfl rfl rfl (hY.2.1 (.methodLinkNest RX3 31 yX6_at RX6) (List.mem_of_getElem? (i := 29) rfl)) knRX6 (by decide +kernel) ⟨Nat.le_of_ble_eq_true rfl, Nat.le_of_ble_eq_true rfl⟩, ks_X6_at, trivial⟩ (hP.sub (ws' := [(ad (o+3), .inl (G.2.1, 17, .inl r.2.2.2.2.1))]) [3] rfl) hY rfl hl.1 rfl (lv_room (Nat.le_of_ble_eq_true rfl)) dX3_estimatedSum_24 ⟨Nat.zero_le _, Nat.zero_le _⟩ ?_
        refine lv_iload_n hx hb dX3_estimatedSum_27 rfl (lv_at hl 4 rfl) ?_
        refine lv_icmp_ne (tgt := 40) hx hb dX3_estimatedSum_28 (by decide) (fun h28_2 => ?_) (fun h28_2 => ?_)
        · refine lv_iinc (v := i + 1) (lv' := [(5, .int (i + 1)), (2, .long x), (4, .int (priSampled r)), (0, .ref (ad o)), (1, .int g)]) hx hb dX3_estimatedSum_40 hl (k := 0) rfl rfl (by decide) rfl (fun ls hl => ?_)
          refine lv_goto (tgt := 11) hx hb dX3_estimatedSum_43 (by decide) ?_
          exact ih x (i + 1) (ms_up h15_1 hm) (by rw [← hR1]; simp only [esL, h15_1, h28_2, ↓reduceIte])  ls (lv_sub hl [0, 1, 2, 3, 4] rfl)
        · refine lv_lload_n hx hb dX3_estimatedSum_31 rfl (lv_at hl 1 rfl) ?_
          refine lv_aload_n hx hb dX3_estimatedSum_32 rfl (lv_at hl 3 rfl) ?_
          refine lv_iload hx hb dX3_estimatedSum_33 (lv_at hl 0 rfl) ?_
          refine rdV (w0 := (wPri G ad o r)) (As := [.int i]) (rest := [.long x]) CF (k_X3_estimateAt l G ad o r i) (cwV 1 hts gX3_estimatedSum_X3_estimateAt rfl rfl rfl (by decide +kernel) ⟨Nat.le_of_ble_eq_true rfl, Nat.le_of_ble_eq_true rfl⟩) hP hY rfl rfl rfl hl.1 rfl (lv_room (Nat.le_of_ble_eq_true rfl)) dX3_estimatedSum_35 ⟨Nat.zero_le _, Nat.zero_le _⟩ ?_
          refine lv_ladd hx hb dX3_estimatedSum_38 ?_
          refine lv_lstore_n (lv' := [(2, .long (x + (priEst r i))), (5, .int i), (4, .int (priSampled r)), (0, .ref (ad o)), (1, .int g)]) hx hb dX3_estimatedSum_39 rfl hl (by decide) rfl (fun ls hl => ?_)
          refine lv_iinc (v := i + 1) (lv' := [(5, .int (i + 1)), (2, .long (x + (priEst r i))), (4, .int (priSampled r)), (0, .ref (ad o)), (1, .int g)]) hx hb dX3_estimatedSum_40 hl (k := 1) rfl rfl (by decide) rfl (fun ls hl => ?_)
          refine lv_goto (tgt := 11) hx hb dX3_estimatedSum_43 (by decide) ?_
          exact ih (x + (priEst r i)) (i + 1) (ms_up h15_1 hm) (by rw [← hR1]; simp only [esL, h15_1, eq_true h28_2, ↓reduceIte])  ls (lv_sub hl [0, 1, 2, 3, 4] rfl)
  exact loop1 _ 0 0 (Nat.lt_succ_self _) rfl  ls (lv_sub hl [0, 2, 1, 3, 4] rfl)

set_option maxHeartbeats 4000000 in
set_option maxRecDepth 100000 in
theorem k_X3_weightSum (l : Launch) (G : GT) (ad : Nat → Nat) (o : Nat) (r : PriT) (g : Int32) : Rd l yX3_weightSum wsX3_weightSum { frames := 3, cells := 0, slots := 0, locals := 50 } G (wPri G ad o r) [.ref (ad o), .int g] (.int (priWSum r g)) := by
  refine Met.ofW (cc := cX3_weightSum) (maxL := 5) (ret := (some .int)) (by decide) rfl ?_
  intro p e s m args below meth c s₁ B hml hv
  obtain ⟨rfl, hP, hY⟩ := hv
  have hx := B.exec
  have hb := B.bytes
  have hr := B.returns
  have hts := atoms_spec (ws := wsX3_weightSum) B.pre
  have hown : s.vm.findClass RX3 = some m.cls := findClass_of_methodNamed B.named
  have hlk := B.notSynchronized
  have CF : CallFix p m c cX3_weightSum 5 s _ wsX3_weightSum RX3 := ⟨hx, hb, hml, hown, hts⟩
  have hiX3 : ∀ w ∈ wsX30, w ∈ wsX3_weightSum := fun w h => (List.mem_cons_of_mem _ (List.mem_append_right _ h))
  have kf18 := hts (.fieldLink RX3 18 "ReservoirReed$Priorities" "groups" "[I") (List.mem_cons_of_mem _ (List.mem_append_left _ (List.mem_of_getElem? (i := 0) rfl)))
  have knRX6 := hts (.initialized RX6) (List.mem_cons_of_mem _ (List.mem_append_left _ (List.mem_of_getElem? (i := 14) rfl)))
  have ks_X6_at := hts (.static yX6_at) (List.mem_cons_of_mem _ (List.mem_append_left _ (List.mem_of_getElem? (i := 13) rfl)))
  have kf15 := hts (.fieldLink RX3 15 "ReservoirReed$Priorities" "weights" "[I") (List.mem_cons_of_mem _ (List.mem_append_left _ (List.mem_of_getElem? (i := 1) rfl)))
  have hl := lv_entry ([.ref (ad o), .int g]) (n := 5) (Nat.le_of_ble_eq_true rfl)
  rw [lg_entry_eq]
  generalize (lg_sl ([.ref (ad o), .int g]) ++ List.replicate (5 - (lg_sl ([.ref (ad o), .int g])).length) Slot.unset).toArray = ls at hl ⊢
  have hl : lv_has ls 5 [(0, .ref (ad o)), (1, .int g)] := hl
  refine lv_iconst (v := 0) hx hb dX3_weightSum_0 (by decide) ?_
  refine lv_istore_n (lv' := [(2, .int 0), (0, .ref (ad o)), (1, .int g)]) hx hb dX3_weightSum_1 rfl hl (by decide) rfl (fun ls hl => ?_)
  refine lv_aload_n hx hb dX3_weightSum_2 rfl (lv_at hl 1 rfl) ?_
  refine rdV (w0 := (wPri G ad o r)) (As := []) (rest := []) CF (k_X3_sampled l G ad o r) (cwV 0 hts gX3_weightSum_X3_sampled rfl rfl rfl (by decide +kernel) ⟨Nat.le_of_ble_eq_true rfl, Nat.le_of_ble_eq_true rfl⟩) hP hY rfl rfl rfl hl.1 rfl (lv_room (Nat.le_of_ble_eq_true rfl)) dX3_weightSum_3 ⟨Nat.zero_le _, Nat.zero_le _⟩ ?_
  refine lv_istore_n (lv' := [(3, .int (priSampled r)), (2, .int 0), (0, .ref (ad o)), (1, .int g)]) hx hb dX3_weightSum_6 rfl hl (by decide) rfl (fun ls hl => ?_)
  refine lv_iconst (v := 0) hx hb dX3_weightSum_7 (by decide) ?_
  refine lv_istore (lv' := [(4, .int 0), (3, .int (priSampled r)), (2, .int 0), (0, .ref (ad o)), (1, .int g)]) hx hb dX3_weightSum_8 hl (by decide) rfl (fun ls hl => ?_)
  have loop1 : ∀ (fu : Nat) (x : Int32) (i : Int32), ((priSampled r).toInt - i.toInt).toNat < fu → wsL_ r g (priSampled r) fu x i = wsL_ r g (priSampled r) (((priSampled r).toInt - ((0 : Int32)).toInt).toNat + 1) 0 0 → ∀ (ls : Array Slot), lv_has ls 5 [(4, .int i), (2, .int x), (3, .int (priSampled r)), (0, .ref (ad o)), (1, .int g)] → W p l e (headSpec wsX3_weightSum { frames := 3, cells := 0, slots := 0, locals := 50 }).room s m ([.ref (ad o), .int g] : List Value).toArray below meth c s.heap [] 0 0 (MQ below (RQ (.int (priWSum r g))) ([.ref (ad o), .int g] : List Value).toArray s 0 0 (fun _ => False)) (F0 m 10 ls []) := by
    intro fu
    induction fu with
    | zero => intro x i hm; exact absurd hm (Nat.not_lt_zero _)
    | succ fu ih =>
      intro x i hm hR1  ls hl
      refine lv_iload hx hb dX3_weightSum_10 (lv_at hl 0 rfl) ?_
      refine lv_iload_n hx hb dX3_weightSum_12 rfl (lv_at hl 2 rfl) ?_
      refine lv_icmp_ge (tgt := 47) hx hb dX3_weightSum_13 (by decide) (fun h13_1 => ?_) (fun h13_1 => ?_)
      · refine lv_iload_n hx hb dX3_weightSum_47 rfl (lv_at hl 1 rfl) ?_
        exact rd_iret hx hb hr hlk (by first | (simp only [priWSum, sld_eq, ↓reduceIte]; rw [← hR1]; simp only [wsL_, h13_1, ↓reduceIte]) | (rw [← hR1]; simp only [wsL_, h13_1, ↓reduceIte])) dX3_weightSum_48
      · refine lv_aload_n hx hb dX3_weightSum_16 rfl (lv_at hl 3 rfl) ?_
        refine va_get (D := G.1) (ci := 3) (v := .ref (ad (o+3))) (C := RX3) (T := TX3) (N := 6) hx hb hts hiX3 hown hY.1 hP 0 rfl rfl 2 (by decide) kf18 (fun _ h9 => h9) rfl dX3_weightSum_17 ?_
        refine lv_iload hx hb dX3_weightSum_20 (lv_at hl 0 rfl) ?_
        refine rdSN (w0 := [(ad (o+3), .inl (G.2.1, 17, .inl r.2.2.2.2.1))]) (As := [.ref (ad (o+3)), .int i]) (rest := []) CF (k_X6_at l G 17 (ad (o+3)) r.2.2.2.2.1 i (by decide)) ⟨va_cnB 2 hts gX3_weightSum_X6_at_n31 rfl rfl rfl (hY.2.1 (.methodLinkNest RX3 31 yX6_at RX6) (List.mem_of_getElem? (i := 29) rfl)) knRX6 (by decide +kernel) ⟨Nat.le_of_ble_eq_true rfl, Nat.le_of_ble_eq_true rfl⟩, ks_X6_at, trivial⟩ (hP.sub (ws' := [(ad (o+3), .inl (G.2.1, 17, .inl r.2.2.2.2.1))]) [3] rfl) hY rfl hl.1 rfl (lv_room (Nat.le_of_ble_eq_true rfl)) dX3_weightSum_22 ⟨Nat.zero_le _, Nat.zero_le _⟩ ?_
        refine lv_iload_n hx hb dX3_weightSum_25 rfl (lv_at hl 4 rfl) ?_
        refine lv_icmp_ne (tgt := 41) hx hb dX3_weightSum_26 (by decide) (fun h26_2 => ?_) (fun h26_2 => ?_)
        · refine lv_iinc (v := i + 1) (lv' := [(4, .int (i + 1)), (2, .int x), (3, .int (priSampled r)), (0, .ref (ad o)), (1, .int g)]) hx hb dX3_weightSum_41 hl (k := 0) rfl rfl (by decide) rfl (fun ls hl => ?_)
          refine lv_goto (tgt := 10) hx hb dX3_weightSum_44 (by decide) ?_
          exact ih x (i + 1) (ms_up h13_1 hm) (by rw [← hR1]; simp only [wsL_, h13_1, h26_2, ↓reduceIte])  ls (lv_sub hl [0, 1, 2, 3, 4] rfl)
        · refine lv_iload_n hx hb dX3_weightSum_29 rfl (lv_at hl 1 rfl) ?_
          refine lv_aload_n hx hb dX3_weightSum_30 rfl (lv_at hl 3 rfl) ?_
          refine va_get (D := G.1) (ci := 3) (v := .ref (ad (o+2))) (C := RX3) (T := TX3) (N := 6) hx hb hts hiX3 hown hY.1 hP 0 rfl rfl 1 (by decide) kf15 (fun _ h9 => h9) rfl dX3_weightSum_31 ?_
          refine lv_iload hx hb dX3_weightSum_34 (lv_at hl 0 rfl) ?_
          refine rdSN (w0 := [(ad (o+2), .inl (G.2.1, 17, .inl r.2.2.2.1))]) (As := [.ref (ad (o+2)), .int i]) (rest := [.int x]) CF (k_X6_at l G 17 (ad (o+2)) r.2.2.2.1 i (by decide)) ⟨va_cnB 2 hts gX3_weightSum_X6_at_n31 rfl rfl rfl (hY.2.1 (.methodLinkNest RX3 31 yX6_at RX6) (List.mem_of_getElem? (i := 29) rfl)) knRX6 (by decide +kernel) ⟨Nat.le_of_ble_eq_true rfl, Nat.le_of_ble_eq_true rfl⟩, ks_X6_at, trivial⟩ (hP.sub (ws' := [(ad (o+2), .inl (G.2.1, 17, .inl r.2.2.2.1))]) [2] rfl) hY rfl hl.1 rfl (lv_room (Nat.le_of_ble_eq_true rfl)) dX3_weightSum_36 ⟨Nat.zero_le _, Nat.zero_le _⟩ ?_
          refine lv_iadd hx hb dX3_weightSum_39 ?_
          refine lv_istore_n (lv' := [(2, .int (x + (at_ 17 r.2.2.2.1 i))), (4, .int i), (3, .int (priSampled r)), (0, .ref (ad o)), (1, .int g)]) hx hb dX3_weightSum_40 rfl hl (by decide) rfl (fun ls hl => ?_)
          refine lv_iinc (v := i + 1) (lv' := [(4, .int (i + 1)), (2, .int (x + (at_ 17 r.2.2.2.1 i))), (3, .int (priSampled r)), (0, .ref (ad o)), (1, .int g)]) hx hb dX3_weightSum_41 hl (k := 1) rfl rfl (by decide) rfl (fun ls hl => ?_)
          refine lv_goto (tgt := 10) hx hb dX3_weightSum_44 (by decide) ?_
          exact ih (x + (at_ 17 r.2.2.2.1 i)) (i + 1) (ms_up h13_1 hm) (by rw [← hR1]; simp only [wsL_, h13_1, eq_true h26_2, ↓reduceIte])  ls (lv_sub hl [0, 1, 2, 3, 4] rfl)
  exact loop1 _ 0 0 (Nat.lt_succ_self _) rfl  ls (lv_sub hl [0, 2, 1, 3, 4] rfl)
