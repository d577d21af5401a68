set_option maxHeartbeats 4000000 in
set_option maxRecDepth 100000 in
theorem k_X1_startAgain (l : Launch) (G : GT) (ad : Nat → Nat) (o : Nat) (r : DisT) (k2 : Int32) : Wr l yX1_startAgain wsX1_startAgain { frames := 0, cells := 0, slots := 0, locals := 0 } G (wDis G ad o r) (wDis G ad o (disStart k2 r)) [.ref (ad o), .int k2] none := by
  intro sz
  obtain ⟨k, hd, it, ti⟩ := r
  refine Met.ofW (cc := cX1_startAgain) (maxL := 2) (ret := none) (by decide) rfl ?_
  intro p e s m args below meth c s₁ B hml hv
  obtain ⟨rfl, hsz, hP, hY, hD0⟩ := hv
  subst hsz
  have hD := hD0.self (sz := s.heap.size)
  generalize hAe : va_A (wDis G ad o (k, hd, it, ti)) s.heap.size = A at hD ⊢
  have hA : ∀ q : Nat, s.heap.size ≤ q → A q := fun q h => by rw [← hAe]; exact Or.inr h
  have hS : va_S A s.heap s.heap [] := va_S.rf
  have hx := B.exec
  have hb := B.bytes
  have hr := B.returns
  have hts := atoms_spec (ws := wsX1_startAgain) B.pre
  have hown : s.vm.findClass RX1 = some m.cls := findClass_of_methodNamed B.named
  have hlk := B.notSynchronized
  have CF : CallFix p m c cX1_startAgain 2 s _ wsX1_startAgain RX1 := ⟨hx, hb, hml, hown, hts⟩
  have hiX1 : ∀ w ∈ wsX10, w ∈ wsX1_startAgain := fun w h => (List.mem_cons_of_mem _ (List.mem_append_right _ h))
  have kf18 := hts (.fieldLink RX1 18 "ReservoirReed$Distinct" "size" "I") (List.mem_cons_of_mem _ (List.mem_append_left _ (List.mem_of_getElem? (i := 0) rfl)))
  have kf22 := hts (.fieldLink RX1 22 "ReservoirReed$Distinct" "held" "I") (List.mem_cons_of_mem _ (List.mem_append_left _ (List.mem_of_getElem? (i := 1) rfl)))
  have hl := lv_entry ([.ref (ad o), .int k2]) (n := 2) (Nat.le_of_ble_eq_true rfl)
  rw [lg_entry_eq]
  generalize (lg_sl ([.ref (ad o), .int k2]) ++ List.replicate (2 - (lg_sl ([.ref (ad o), .int k2])).length) Slot.unset).toArray = ls at hl ⊢
  have hl : lv_has ls 2 [(0, .ref (ad o)), (1, .int k2)] := hl
  refine lv_aload_n hx hb dX1_startAgain_0 rfl (lv_at hl 0 rfl) ?_
  refine lv_iload_n hx hb dX1_startAgain_1 rfl (lv_at hl 1 rfl) ?_
  refine va_put (D := G.1) (ci := 1) (v := .int k2) (ty := .int) (C := RX1) (T := TX1) (N := 4) hx hb hts hiX1 tyX1 tyX1_ok nmX1 hown hY.1 hP hD hS 0 rfl rfl 2 (by decide) kf18 (fun _ h9 => h9) rfl (by decide +kernel) rfl rfl (Nat.le_of_ble_eq_true rfl) dX1_startAgain_2 (fun H locs hP hD hS => ?_)
  have hP : va_P G.1 vwCl (wDis G ad o (k2, hd, it, ti)) H := hP
  have hD : va_D A (wDis G ad o (k2, hd, it, ti)) := hD
  refine lv_aload_n hx hb dX1_startAgain_5 rfl (lv_at hl 0 rfl) ?_
  refine lv_iconst (v := 0) hx hb dX1_startAgain_6 (by decide) ?_
  refine va_put (D := G.1) (ci := 1) (v := .int 0) (ty := .int) (C := RX1) (T := TX1) (N := 4) hx hb hts hiX1 tyX1 tyX1_ok nmX1 hown hY.1 hP hD hS 0 rfl rfl 3 (by decide) kf22 (fun _ h9 => h9) rfl (by decide +kernel) rfl rfl (Nat.le_of_ble_eq_true rfl) dX1_startAgain_7 (fun H locs hP hD hS => ?_)
  have hP : va_P G.1 vwCl (wDis G ad o (k2, 0, it, ti)) H := hP
  have hD : va_D A (wDis G ad o (k2, 0, it, ti)) := hD
  exact wr_vret hx hb hr hlk hS hP (by first | with_reducible rfl | (simp only [disStart, sld_eq, ↓reduceIte]; done)) dX1_startAgain_10

set_option maxHeartbeats 4000000 in
set_option maxRecDepth 100000 in
theorem k_X1_hashOf (l : Launch) (G : GT) (ia : Int32) : Rd l yX1_hashOf wsX1_hashOf { frames := 0, cells := 0, slots := 0, locals := 0 } G ([] : va_W) [.int ia] (.long (hash_ ia)) := by
  refine Met.ofW (cc := cX1_hashOf) (maxL := 1) (ret := (some .long)) (by decide) rfl ?_
  intro p e s m args below meth c s₁ B hml hv
  obtain ⟨rfl, hP, hY⟩ := hv
  have hx := B.exec
  have hb := B.bytes
  have hr := B.returns
  have hts := atoms_spec (ws := wsX1_hashOf) B.pre
  have hown : s.vm.findClass RX1 = some m.cls := findClass_of_methodNamed B.named
  have hlk := B.notSynchronized
  have CF : CallFix p m c cX1_hashOf 1 s _ wsX1_hashOf RX1 := ⟨hx, hb, hml, hown, hts⟩
  have kc55 := hts (.constantLong RX1 55 (2654435761)) (List.mem_cons_of_mem _ (List.mem_of_getElem? (i := 0) rfl))
  have kc57 := hts (.constantLong RX1 57 (4294967296)) (List.mem_cons_of_mem _ (List.mem_of_getElem? (i := 1) rfl))
  have hl := lv_entry ([.int ia]) (n := 1) (Nat.le_of_ble_eq_true rfl)
  rw [lg_entry_eq]
  generalize (lg_sl ([.int ia]) ++ List.replicate (1 - (lg_sl ([.int ia])).length) Slot.unset).toArray = ls at hl ⊢
  have hl : lv_has ls 1 [(0, .int ia)] := hl
  refine lv_iload_n hx hb dX1_hashOf_0 rfl (lv_at hl 0 rfl) ?_
  refine lv_i2l hx hb dX1_hashOf_1 rfl ?_
  refine lv_ldc2 hx hb hown kc55 dX1_hashOf_2 ?_
  refine lv_lmul hx hb dX1_hashOf_5 ?_
  refine lv_ldc2 hx hb hown kc57 dX1_hashOf_6 ?_
  refine lv_lrem hx hb dX1_hashOf_9 (by decide) ?_
  refine lv_lconst (v := 1) hx hb dX1_hashOf_10 (by decide) ?_
  refine lv_ladd hx hb dX1_hashOf_11 ?_
  exact rd_lret hx hb hr hlk (by first | with_reducible rfl | (simp only [hash_, sld_eq, ↓reduceIte]; done)) dX1_hashOf_12

set_option maxHeartbeats 4000000 in
set_option maxRecDepth 100000 in
theorem k_X1_placeFor (l : Launch) (G : GT) (ad : Nat → Nat) (o : Nat) (r : DisT) (ia : Int32) : Rd l yX1_placeFor wsX1_placeFor { frames := 1, cells := 0, slots := 0, locals := 21 } G (wDis G ad o r) [.ref (ad o), .int ia] (.int (disPf r ia)) := by
  refine Met.ofW (cc := cX1_placeFor) (maxL := 5) (ret := (some .int)) (by decide) rfl ?_
  intro p e s m args below meth c s₁ B hml hv
  obtain ⟨rfl, hP, hY⟩ := hv
  have hx := B.exec
  have hb := B.bytes
  have hr := B.returns
  have hts := atoms_spec (ws := wsX1_placeFor) B.pre
  have hown : s.vm.findClass RX1 = some m.cls := findClass_of_methodNamed B.named
  have hlk := B.notSynchronized
  have CF : CallFix p m c cX1_placeFor 5 s _ wsX1_placeFor RX1 := ⟨hx, hb, hml, hown, hts⟩
  have hiX1 : ∀ w ∈ wsX10, w ∈ wsX1_placeFor := fun w h => (List.mem_cons_of_mem _ (List.mem_append_right _ h))
  have kf22 := hts (.fieldLink RX1 22 "ReservoirReed$Distinct" "held" "I") (List.mem_cons_of_mem _ (List.mem_append_left _ (List.mem_of_getElem? (i := 0) rfl)))
  have kf9 := hts (.fieldLink RX1 9 "ReservoirReed$Distinct" "items" "[I") (List.mem_cons_of_mem _ (List.mem_append_left _ (List.mem_of_getElem? (i := 1) rfl)))
  have knRX6 := hts (.initialized RX6) (List.mem_cons_of_mem _ (List.mem_append_left _ (List.mem_of_getElem? (i := 9) rfl)))
  have ks_X6_at := hts (.static yX6_at) (List.mem_cons_of_mem _ (List.mem_append_left _ (List.mem_of_getElem? (i := 8) rfl)))
  have hl := lv_entry ([.ref (ad o), .int ia]) (n := 5) (Nat.le_of_ble_eq_true rfl)
  rw [lg_entry_eq]
  generalize (lg_sl ([.ref (ad o), .int ia]) ++ List.replicate (5 - (lg_sl ([.ref (ad o), .int ia])).length) Slot.unset).toArray = ls at hl ⊢
  have hl : lv_has ls 5 [(0, .ref (ad o)), (1, .int ia)] := hl
  refine lv_iload_n hx hb dX1_placeFor_0 rfl (lv_at hl 1 rfl) ?_
  refine rdS (w0 := ([] : va_W)) (As := [.int ia]) (rest := []) CF (k_X1_hashOf l G ia) (va_cwS 1 hts gX1_placeFor_X1_hashOf rfl rfl rfl (by decide +kernel) ⟨Nat.le_of_ble_eq_true rfl, Nat.le_of_ble_eq_true rfl⟩) va_P_nil hY rfl hl.1 rfl (lv_room (Nat.le_of_ble_eq_true rfl)) dX1_placeFor_1 ⟨Nat.zero_le _, Nat.zero_le _⟩ ?_
  refine lv_lstore_n (lv' := [(2, .long (hash_ ia)), (0, .ref (ad o)), (1, .int ia)]) hx hb dX1_placeFor_4 rfl hl (by decide) rfl (fun ls hl => ?_)
  refine lv_iconst (v := 0) hx hb dX1_placeFor_5 (by decide) ?_
  refine lv_istore (lv' := [(4, .int 0), (2, .long (hash_ ia)), (0, .ref (ad o)), (1, .int ia)]) hx hb dX1_placeFor_6 hl (by decide) rfl (fun ls hl => ?_)
  have loop1 : ∀ (fu : Nat) (j : Int32), (r.2.1.toInt - j.toInt).toNat < fu → dfL r (hash_ ia) fu j = dfL r (hash_ ia) ((r.2.1.toInt - ((0 : Int32)).toInt).toNat + 1) 0 → ∀ (ls : Array Slot), lv_has ls 5 [(4, .int j), (2, .long (hash_ ia)), (0, .ref (ad o)), (1, .int ia)] → W p l e (headSpec wsX1_placeFor { frames := 1, cells := 0, slots := 0, locals := 21 }).room s m ([.ref (ad o), .int ia] : List Value).toArray below meth c s.heap [] 0 0 (MQ below (RQ (.int (disPf r ia))) ([.ref (ad o), .int ia] : List Value).toArray s 0 0 (fun _ => False)) (F0 m 8 ls []) := by
    intro fu
    induction fu with
    | zero => intro j hm; exact absurd hm (Nat.not_lt_zero _)
    | succ fu ih =>
      intro j hm hR1  ls hl
      refine lv_iload hx hb dX1_placeFor_8 (lv_at hl 0 rfl) ?_
      refine lv_aload_n hx hb dX1_placeFor_10 rfl (lv_at hl 2 rfl) ?_
      refine va_get (D := G.1) (ci := 1) (v := .int r.2.1) (C := RX1) (T := TX1) (N := 4) hx hb hts hiX1 hown hY.1 hP 0 rfl rfl 3 (by decide) kf22 (fun _ h9 => h9) rfl dX1_placeFor_11 ?_
      refine lv_icmp_ge (tgt := 40) hx hb dX1_placeFor_14 (by decide) (fun h14_1 => ?_) (fun h14_1 => ?_)
      · refine lv_iload hx hb dX1_placeFor_40 (lv_at hl 0 rfl) ?_
        exact rd_iret hx hb hr hlk (by first | (simp only [disPf, sld_eq, ↓reduceIte]; rw [← hR1]; simp only [dfL, h14_1, ↓reduceIte]) | (rw [← hR1]; simp only [dfL, h14_1, ↓reduceIte])) dX1_placeFor_42
      · refine lv_aload_n hx hb dX1_placeFor_17 rfl (lv_at hl 2 rfl) ?_
        refine va_get (D := G.1) (ci := 1) (v := .ref (ad (o+1))) (C := RX1) (T := TX1) (N := 4) hx hb hts hiX1 hown hY.1 hP 0 rfl rfl 0 (by decide) kf9 (fun _ h9 => h9) rfl dX1_placeFor_18 ?_
        refine lv_iload hx hb dX1_placeFor_21 (lv_at hl 0 rfl) ?_
        refine rdSN (w0 := [(ad (o+1), .inl (G.2.1, 16, .inl r.2.2.1))]) (As := [.ref (ad (o+1)), .int j]) (rest := []) CF (k_X6_at l G 16 (ad (o+1)) r.2.2.1 j (by decide)) ⟨va_cnB 2 hts gX1_placeFor_X6_at_n25 rfl rfl rfl (hY.2.1 (.methodLinkNest RX1 25 yX6_at RX6) (List.mem_of_getElem? (i := 24) rfl)) knRX6 (by decide +kernel) ⟨Nat.le_of_ble_eq_true rfl, Nat.le_of_ble_eq_true rfl⟩, ks_X6_at, trivial⟩ (hP.sub (ws' := [(ad (o+1), .inl (G.2.1, 16, .inl r.2.2.1))]) [1] rfl) hY rfl hl.1 rfl (lv_room (Nat.le_of_ble_eq_true rfl)) dX1_placeFor_23 ⟨Nat.zero_le _, Nat.zero_le _⟩ ?_
        refine rdS (w0 := ([] : va_W)) (As := [.int (at_ 16 r.2.2.1 j)]) (rest := []) CF (k_X1_hashOf l G (at_ 16 r.2.2.1 j)) (va_cwS 1 hts gX1_placeFor_X1_hashOf rfl rfl rfl (by decide +kernel) ⟨Nat.le_of_ble_eq_true rfl, Nat.le_of_ble_eq_true rfl⟩) va_P_nil hY rfl hl.1 rfl (lv_room (Nat.le_of_ble_eq_true rfl)) dX1_placeFor_26 ⟨Nat.zero_le _, Nat.zero_le _⟩ ?_
        refine lv_lload_n hx hb dX1_placeFor_29 rfl (lv_at hl 1 rfl) ?_
        refine W.lcmp hx hb dX1_placeFor_30 ?_
        refine lv_if_ge (tgt := 40) hx hb dX1_placeFor_31 (by decide) (fun h31_2 => ?_) (fun h31_2 => ?_)
        · refine lv_iload hx hb dX1_placeFor_40 (lv_at hl 0 rfl) ?_
          exact rd_iret hx hb hr hlk (by first | (simp only [disPf, sld_eq, ↓reduceIte]; rw [← hR1]; simp only [dfL, h14_1, h31_2, ↓reduceIte]) | (rw [← hR1]; simp only [dfL, h14_1, h31_2, ↓reduceIte])) dX1_placeFor_42
        · refine lv_iinc (v := j + 1) (lv' := [(4, .int (j + 1)), (2, .long (hash_ ia)), (0, .ref (ad o)), (1, .int ia)]) hx hb dX1_placeFor_34 hl (k := 0) rfl rfl (by decide) rfl (fun ls hl => ?_)
          refine lv_goto (tgt := 8) hx hb dX1_placeFor_37 (by decide) ?_
          exact ih (j + 1) (ms_up h14_1 hm) (by rw [← hR1]; simp only [dfL, h14_1, h31_2, ↓reduceIte])  ls (lv_sub hl [0, 1, 2, 3] rfl)
  exact loop1 _ 0 (Nat.lt_succ_self _) rfl  ls (lv_sub hl [0, 1, 2, 3] rfl)

set_option maxHeartbeats 4000000 in
set_option maxRecDepth 100000 in
theorem k_X1_add (l : Launch) (G : GT) (ad : Nat → Nat) (o : Nat) (r : DisT) (ia oa : Int32) : Wr l yX1_add wsX1_add { frames := 2, cells := 0, slots := 0, locals := 46 } G (wDis G ad o r) (wDis G ad o (disAdd r ia oa)) [.ref (ad o), .int ia, .int oa] none := by
  intro sz
  obtain ⟨k, hd, it, ti⟩ := r
  refine Met.ofW (cc := cX1_add) (maxL := 4) (ret := none) (by decide) rfl ?_
  intro p e s m args below meth c s₁ B hml hv
  obtain ⟨rfl, hsz, hP, hY, hD0⟩ := hv
  subst hsz
  have hD := hD0.self (sz := s.heap.size)
  generalize hAe : va_A (wDis G ad o (k, hd, it, ti)) s.heap.size = A at hD ⊢
  have hA : ∀ q : Nat, s.heap.size ≤ q → A q := fun q h => by rw [← hAe]; exact Or.inr h
  have hS : va_S A s.heap s.heap [] := va_S.rf
  have hx := B.exec
  have hb := B.bytes
  have hr := B.returns
  have hts := atoms_spec (ws := wsX1_add) B.pre
  have hown : s.vm.findClass RX1 = some m.cls := findClass_of_methodNamed B.named
  have hlk := B.notSynchronized
  have CF : CallFix p m c cX1_add 4 s _ wsX1_add RX1 := ⟨hx, hb, hml, hown, hts⟩
  have hiX1 : ∀ w ∈ wsX10, w ∈ wsX1_add := fun w h => (List.mem_cons_of_mem _ (List.mem_append_right _ h))
  have kf22 := hts (.fieldLink RX1 22 "ReservoirReed$Distinct" "held" "I") (List.mem_cons_of_mem _ (List.mem_append_left _ (List.mem_append_left _ (List.mem_of_getElem? (i := 0) rfl))))
  have kf18 := hts (.fieldLink RX1 18 "ReservoirReed$Distinct" "size" "I") (List.mem_cons_of_mem _ (List.mem_append_left _ (List.mem_append_left _ (List.mem_of_getElem? (i := 3) rfl))))
  have km1 := hts (.methodLink RX1 41 Lib.Math.min.name) (List.mem_cons_of_mem _ (List.mem_append_left _ (List.mem_append_left _ (List.mem_of_getElem? (i := 4) rfl))))
  have km2 := hts (.static Lib.Math.min.name) (List.mem_cons_of_mem _ (List.mem_append_left _ (List.mem_append_left _ (List.mem_of_getElem? (i := 5) rfl))))
  have km3 := hts (.initialized "java/lang/Math") (List.mem_cons_of_mem _ (List.mem_append_left _ (List.mem_append_left _ (List.mem_of_getElem? (i := 6) rfl))))
  have km4 := hts (.code Lib.Math.min.name Lib.Math.min.code 2 (some .int)) (List.mem_cons_of_mem _ (List.mem_append_left _ (List.mem_append_left _ (List.mem_of_getElem? (i := 7) rfl))))
  have kf9 := hts (.fieldLink RX1 9 "ReservoirReed$Distinct" "items" "[I") (List.mem_cons_of_mem _ (List.mem_append_left _ (List.mem_append_left _ (List.mem_of_getElem? (i := 1) rfl))))
  have knRX6 := hts (.initialized RX6) (List.mem_cons_of_mem _ (List.mem_append_left _ (List.mem_append_left _ (List.mem_of_getElem? (i := 19) rfl))))
  have ks_X6_insert := hts (.static yX6_insert) (List.mem_cons_of_mem _ (List.mem_append_left _ (List.mem_append_left _ (List.mem_of_getElem? (i := 23) rfl))))
  have kf15 := hts (.fieldLink RX1 15 "ReservoirReed$Distinct" "times" "[I") (List.mem_cons_of_mem _ (List.mem_append_left _ (List.mem_append_left _ (List.mem_of_getElem? (i := 2) rfl))))
  have ks_X6_at := hts (.static yX6_at) (List.mem_cons_of_mem _ (List.mem_append_left _ (List.mem_append_left _ (List.mem_of_getElem? (i := 18) rfl))))
  have ks_X6_put := hts (.static yX6_put) (List.mem_cons_of_mem _ (List.mem_append_left _ (List.mem_append_left _ (List.mem_of_getElem? (i := 21) rfl))))
  have hl := lv_entry ([.ref (ad o), .int ia, .int oa]) (n := 4) (Nat.le_of_ble_eq_true rfl)
  rw [lg_entry_eq]
  generalize (lg_sl ([.ref (ad o), .int ia, .int oa]) ++ List.replicate (4 - (lg_sl ([.ref (ad o), .int ia, .int oa])).length) Slot.unset).toArray = ls at hl ⊢
  have hl : lv_has ls 4 [(0, .ref (ad o)), (1, .int ia), (2, .int oa)] := hl
  refine lv_aload_n hx hb dX1_add_0 rfl (lv_at hl 0 rfl) ?_
  refine lv_iload_n hx hb dX1_add_1 rfl (lv_at hl 1 rfl) ?_
  refine rdV (w0 := (wDis G ad o (k, hd, it, ti))) (As := [.int ia]) (rest := []) CF (k_X1_placeFor l G ad o (k, hd, it, ti) ia) (cwV 1 hts gX1_add_X1_placeFor rfl rfl rfl (by decide +kernel) ⟨Nat.le_of_ble_eq_true rfl, Nat.le_of_ble_eq_true rfl⟩) hP hY rfl rfl rfl hl.1 rfl (lv_room (Nat.le_of_ble_eq_true rfl)) dX1_add_2 ⟨Nat.zero_le _, Nat.zero_le _⟩ ?_
  refine lv_istore_n (lv' := [(3, .int (disPf (k, hd, it, ti) ia)), (0, .ref (ad o)), (1, .int ia), (2, .int oa)]) hx hb dX1_add_5 rfl hl (by decide) rfl (fun ls hl => ?_)
  refine lv_iload_n hx hb dX1_add_6 rfl (lv_at hl 0 rfl) ?_
  refine lv_aload_n hx hb dX1_add_7 rfl (lv_at hl 1 rfl) ?_
  refine va_get (D := G.1) (ci := 1) (v := .int hd) (C := RX1) (T := TX1) (N := 4) hx hb hts hiX1 hown hY.1 hP 0 rfl rfl 3 (by decide) kf22 (fun _ h9 => h9) rfl dX1_add_8 ?_
  refine lv_icmp_ge (tgt := 45) hx hb dX1_add_11 (by decide) (fun h11_1 => ?_) (fun h11_1 => ?_)
  · refine lv_iload_n hx hb dX1_add_45 rfl (lv_at hl 0 rfl) ?_
    refine lv_aload_n hx hb dX1_add_46 rfl (lv_at hl 1 rfl) ?_
    refine va_get (D := G.1) (ci := 1) (v := .int k) (C := RX1) (T := TX1) (N := 4) hx hb hts hiX1 hown hY.1 hP 0 rfl rfl 2 (by decide) kf18 (fun _ h9 => h9) rfl dX1_add_47 ?_
    refine lv_icmp_lt (tgt := 54) hx hb dX1_add_50 (by decide) (fun h50_2 => ?_) (fun h50_2 => ?_)
    · refine lv_aload_n hx hb dX1_add_54 rfl (lv_at hl 1 rfl) ?_
      refine lv_aload_n hx hb dX1_add_55 rfl (lv_at hl 1 rfl) ?_
      refine va_get (D := G.1) (ci := 1) (v := .int hd) (C := RX1) (T := TX1) (N := 4) hx hb hts hiX1 hown hY.1 hP 0 rfl rfl 3 (by decide) kf22 (fun _ h9 => h9) rfl dX1_add_56 ?_
      refine lv_iconst (v := 1) hx hb dX1_add_59 (by decide) ?_
      refine lv_iadd hx hb dX1_add_60 ?_
      refine lv_aload_n hx hb dX1_add_61 rfl (lv_at hl 1 rfl) ?_
      refine va_get (D := G.1) (ci := 1) (v := .int k) (C := RX1) (T := TX1) (N := 4) hx hb hts hiX1 hown hY.1 hP 0 rfl rfl 2 (by decide) kf18 (fun _ h9 => h9) rfl dX1_add_62 ?_
      refine va_mmin hx hb (hml.trans hl.1.symm) (index := 41) hown km1 km2 km3 km4 (Nat.le_of_ble_eq_true rfl) (Nat.le_of_ble_eq_true rfl) (Nat.zero_le _) (Nat.zero_le _) dX1_add_65 ?_
      refine va_put (D := G.1) (ci := 1) (v := .int (if k < (hd + 1) then k else (hd + 1))) (ty := .int) (C := RX1) (T := TX1) (N := 4) hx hb hts hiX1 tyX1 tyX1_ok nmX1 hown hY.1 hP hD hS 0 rfl rfl 3 (by decide) kf22 (fun _ h9 => h9) rfl (by decide +kernel) rfl rfl (Nat.le_of_ble_eq_true rfl) dX1_add_68 (fun H locs hP hD hS => ?_)
      have hP : va_P G.1 vwCl (wDis G ad o (k, if k < (hd + 1) then k else (hd + 1), it, ti)) H := hP
      have hD : va_D A (wDis G ad o (k, if k < (hd + 1) then k else (hd + 1), it, ti)) := hD
      refine lv_aload_n hx hb dX1_add_71 rfl (lv_at hl 1 rfl) ?_
      refine va_get (D := G.1) (ci := 1) (v := .ref (ad (o+1))) (C := RX1) (T := TX1) (N := 4) hx hb hts hiX1 hown hY.1 hP 0 rfl rfl 0 (by decide) kf9 (fun _ h9 => h9) rfl dX1_add_72 ?_
      refine lv_iload_n hx hb dX1_add_75 rfl (lv_at hl 0 rfl) ?_
      refine lv_aload_n hx hb dX1_add_76 rfl (lv_at hl 1 rfl) ?_
      refine va_get (D := G.1) (ci := 1) (v := .int (if k < (hd + 1) then k else (hd + 1))) (C := RX1) (T := TX1) (N := 4) hx hb hts hiX1 hown hY.1 hP 0 rfl rfl 3 (by decide) kf22 (fun _ h9 => h9) rfl dX1_add_77 ?_
      refine lv_iload_n hx hb dX1_add_80 rfl (lv_at hl 2 rfl) ?_
      refine wrSN (List.take 1 (wDis G ad o (k, if k < (hd + 1) then k else (hd + 1), it, ti))) [(ad (o+1), .inl (G.2.1, 16, .inl it))] (List.drop 2 (wDis G ad o (k, if k < (hd + 1) then k else (hd + 1), it, ti))) [(ad (o+1), .inl (G.2.1, 16, .inl (ins_ 16 it (disPf (k, hd, it, ti) ia) (if k < (hd + 1) then k else (hd + 1)) ia)))] (As := [.ref (ad (o+1)), .int (disPf (k, hd, it, ti) ia), .int (if k < (hd + 1) then k else (hd + 1)), .int ia]) (rest := []) CF (k_X6_insert l G 16 (ad (o+1)) it (disPf (k, hd, it, ti) ia) (if k < (hd + 1) then k else (hd + 1)) ia (by decide)) ⟨va_cnB 4 hts gX1_add_X6_insert_n47 rfl rfl rfl (hY.2.1 (.methodLinkNest RX1 47 yX6_insert RX6) (List.mem_of_getElem? (i := 26) rfl)) knRX6 (by decide +kernel) ⟨Nat.le_of_ble_eq_true rfl, Nat.le_of_ble_eq_true rfl⟩, ks_X6_insert, trivial⟩ hP hD hS hA hY (fst_arr _ _ _) rfl hl.1 rfl (lv_room (Nat.le_of_ble_eq_true rfl)) dX1_add_81 ⟨Nat.zero_le _, Nat.zero_le _⟩ (fun H locs hP hD hS => ?_)
      have hP : va_P G.1 vwCl (wDis G ad o (k, if k < (hd + 1) then k else (hd + 1), ins_ 16 it (disPf (k, hd, it, ti) ia) (if k < (hd + 1) then k else (hd + 1)) ia, ti)) H := hP
      have hD : va_D A (wDis G ad o (k, if k < (hd + 1) then k else (hd + 1), ins_ 16 it (disPf (k, hd, it, ti) ia) (if k < (hd + 1) then k else (hd + 1)) ia, ti)) := hD
      refine lv_aload_n hx hb dX1_add_84 rfl (lv_at hl 1 rfl) ?_
      refine va_get (D := G.1) (ci := 1) (v := .ref (ad (o+2))) (C := RX1) (T := TX1) (N := 4) hx hb hts hiX1 hown hY.1 hP 0 rfl rfl 1 (by decide) kf15 (fun _ h9 => h9) rfl dX1_add_85 ?_
      refine lv_iload_n hx hb dX1_add_88 rfl (lv_at hl 0 rfl) ?_
      refine lv_aload_n hx hb dX1_add_89 rfl (lv_at hl 1 rfl) ?_
      refine va_get (D := G.1) (ci := 1) (v := .int (if k < (hd + 1) then k else (hd + 1))) (C := RX1) (T := TX1) (N := 4) hx hb hts hiX1 hown hY.1 hP 0 rfl rfl 3 (by decide) kf22 (fun _ h9 => h9) rfl dX1_add_90 ?_
      refine lv_iload_n hx hb dX1_add_93 rfl (lv_at hl 3 rfl) ?_
      refine wrSN (List.take 2 (wDis G ad o (k, if k < (hd + 1) then k else (hd + 1), ins_ 16 it (disPf (k, hd, it, ti) ia) (if k < (hd + 1) then k else (hd + 1)) ia, ti))) [(ad (o+2), .inl (G.2.1, 16, .inl ti))] [] [(ad (o+2), .inl (G.2.1, 16, .inl (ins_ 16 ti (disPf (k, hd, it, ti) ia) (if k < (hd + 1) then k else (hd + 1)) oa)))] (As := [.ref (ad (o+2)), .int (disPf (k, hd, it, ti) ia), .int (if k < (hd + 1) then k else (hd + 1)), .int oa]) (rest := []) CF (k_X6_insert l G 16 (ad (o+2)) ti (disPf (k, hd, it, ti) ia) (if k < (hd + 1) then k else (hd + 1)) oa (by decide)) ⟨va_cnB 4 hts gX1_add_X6_insert_n47 rfl rfl rfl (hY.2.1 (.methodLinkNest RX1 47 yX6_insert RX6) (List.mem_of_getElem? (i := 26) rfl)) knRX6 (by decide +kernel) ⟨Nat.le_of_ble_eq_true rfl, Nat.le_of_ble_eq_true rfl⟩, ks_X6_insert, trivial⟩ hP hD hS hA hY (fst_arr _ _ _) rfl hl.1 rfl (lv_room (Nat.le_of_ble_eq_true rfl)) dX1_add_94 ⟨Nat.zero_le _, Nat.zero_le _⟩ (fun H locs hP hD hS => ?_)
      have hP : va_P G.1 vwCl (wDis G ad o (k, if k < (hd + 1) then k else (hd + 1), ins_ 16 it (disPf (k, hd, it, ti) ia) (if k < (hd + 1) then k else (hd + 1)) ia, ins_ 16 ti (disPf (k, hd, it, ti) ia) (if k < (hd + 1) then k else (hd + 1)) oa)) H := hP
      have hD : va_D A (wDis G ad o (k, if k < (hd + 1) then k else (hd + 1), ins_ 16 it (disPf (k, hd, it, ti) ia) (if k < (hd + 1) then k else (hd + 1)) ia, ins_ 16 ti (disPf (k, hd, it, ti) ia) (if k < (hd + 1) then k else (hd + 1)) oa)) := hD
      exact wr_vret hx hb hr hlk hS hP (by first | with_reducible rfl | (simp only [disAdd, disIns, sld_eq, h11_1, h50_2, ↓reduceIte]; done)) dX1_add_97
    · exact wr_vret hx hb hr hlk hS hP (by first | with_reducible rfl | (simp only [disAdd, disIns, sld_eq, h11_1, h50_2, ↓reduceIte]; done)) dX1_add_53
  · refine lv_aload_n hx hb dX1_add_14 rfl (lv_at hl 1 rfl) ?_
    refine va_get (D := G.1) (ci := 1) (v := .ref (ad (o+1))) (C := RX1) (T := TX1) (N := 4) hx hb hts hiX1 hown hY.1 hP 0 rfl rfl 0 (by decide) kf9 (fun _ h9 => h9) rfl dX1_add_15 ?_
    refine lv_iload_n hx hb dX1_add_18 rfl (lv_at hl 0 rfl) ?_
    refine rdSN (w0 := [(ad (o+1), .inl (G.2.1, 16, .inl it))]) (As := [.ref (ad (o+1)), .int (disPf (k, hd, it, ti) ia)]) (rest := []) CF (k_X6_at l G 16 (ad (o+1)) it (disPf (k, hd, it, ti) ia) (by decide)) ⟨va_cnB 2 hts gX1_add_X6_at_n25 rfl rfl rfl (hY.2.1 (.methodLinkNest RX1 25 yX6_at RX6) (List.mem_of_getElem? (i := 24) rfl)) knRX6 (by decide +kernel) ⟨Nat.le_of_ble_eq_true rfl, Nat.le_of_ble_eq_true rfl⟩, ks_X6_at, trivial⟩ (hP.sub (ws' := [(ad (o+1), .inl (G.2.1, 16, .inl it))]) [1] rfl) hY rfl hl.1 rfl (lv_room (Nat.le_of_ble_eq_true rfl)) dX1_add_19 ⟨Nat.zero_le _, Nat.zero_le _⟩ ?_
    refine lv_iload_n hx hb dX1_add_22 rfl (lv_at hl 2 rfl) ?_
    refine lv_icmp_ne (tgt := 45) hx hb dX1_add_23 (by decide) (fun h23_3 => ?_) (fun h23_3 => ?_)
    · refine lv_iload_n hx hb dX1_add_45 rfl (lv_at hl 0 rfl) ?_
      refine lv_aload_n hx hb dX1_add_46 rfl (lv_at hl 1 rfl) ?_
      refine va_get (D := G.1) (ci := 1) (v := .int k) (C := RX1) (T := TX1) (N := 4) hx hb hts hiX1 hown hY.1 hP 0 rfl rfl 2 (by decide) kf18 (fun _ h9 => h9) rfl dX1_add_47 ?_
      refine lv_icmp_lt (tgt := 54) hx hb dX1_add_50 (by decide) (fun h50_4 => ?_) (fun h50_4 => ?_)
      · refine lv_aload_n hx hb dX1_add_54 rfl (lv_at hl 1 rfl) ?_
        refine lv_aload_n hx hb dX1_add_55 rfl (lv_at hl 1 rfl) ?_
        refine va_get (D := G.1) (ci := 1) (v := .int hd) (C := RX1) (T := TX1) (N := 4) hx hb hts hiX1 hown hY.1 hP 0 rfl rfl 3 (by decide) kf22 (fun _ h9 => h9) rfl dX1_add_56 ?_
        refine lv_iconst (v := 1) hx hb dX1_add_59 (by decide) ?_
        refine lv_iadd hx hb dX1_add_60 ?_
        refine lv_aload_n hx hb dX1_add_61 rfl (lv_at hl 1 rfl) ?_
        refine va_get (D := G.1) (ci := 1) (v := .int k) (C := RX1) (T := TX1) (N := 4) hx hb hts hiX1 hown hY.1 hP 0 rfl rfl 2 (by decide) kf18 (fun _ h9 => h9) rfl dX1_add_62 ?_
        refine va_mmin hx hb (hml.trans hl.1.symm) (index := 41) hown km1 km2 km3 km4 (Nat.le_of_ble_eq_true rfl) (Nat.le_of_ble_eq_true rfl) (Nat.zero_le _) (Nat.zero_le _) dX1_add_65 ?_
        refine va_put (D := G.1) (ci := 1) (v := .int (if k < (hd + 1) then k else (hd + 1))) (ty := .int) (C := RX1) (T := TX1) (N := 4) hx hb hts hiX1 tyX1 tyX1_ok nmX1 hown hY.1 hP hD hS 0 rfl rfl 3 (by decide) kf22 (fun _ h9 => h9) rfl (by decide +kernel) rfl rfl (Nat.le_of_ble_eq_true rfl) dX1_add_68 (fun H locs hP hD hS => ?_)
        have hP : va_P G.1 vwCl (wDis G ad o (k, if k < (hd + 1) then k else (hd + 1), it, ti)) H := hP
        have hD : va_D A (wDis G ad o (k, if k < (hd + 1) then k else (hd + 1), it, ti)) := hD
        refine lv_aload_n hx hb dX1_add_71 rfl (lv_at hl 1 rfl) ?_
        refine va_get (D := G.1) (ci := 1) (v := .ref (ad (o+1))) (C := RX1) (T := TX1) (N := 4) hx hb hts hiX1 hown hY.1 hP 0 rfl rfl 0 (by decide) kf9 (fun _ h9 => h9) rfl dX1_add_72 ?_
        refine lv_iload_n hx hb dX1_add_75 rfl (lv_at hl 0 rfl) ?_
        refine lv_aload_n hx hb dX1_add_76 rfl (lv_at hl 1 rfl) ?_
        refine va_get (D := G.1) (ci := 1) (v := .int (if k < (hd + 1) then k else (hd + 1))) (C := RX1) (T := TX1) (N := 4) hx hb hts hiX1 hown hY.1 hP 0 rfl rfl 3 (by decide) kf22 (fun _ h9 => h9) rfl dX1_add_77 ?_
        refine lv_iload_n hx hb dX1_add_80 rfl (lv_at hl 2 rfl) ?_
        refine wrSN (List.take 1 (wDis G ad o (k, if k < (hd + 1) then k else (hd + 1), it, ti))) [(ad (o+1), .inl (G.2.1, 16, .inl it))] (List.drop 2 (wDis G ad o (k, if k < (hd + 1) then k else (hd + 1), it, ti))) [(ad (o+1), .inl (G.2.1, 16, .inl (ins_ 16 it (disPf (k, hd, it, ti) ia) (if k < (hd + 1) then k else (hd + 1)) ia)))] (As := [.ref (ad (o+1)), .int (disPf (k, hd, it, ti) ia), .int (if k < (hd + 1) then k else (hd + 1)), .int ia]) (rest := []) CF (k_X6_insert l G 16 (ad (o+1)) it (disPf (k, hd, it, ti) ia) (if k < (hd + 1) then k else (hd + 1)) ia (by decide)) ⟨va_cnB 4 hts gX1_add_X6_insert_n47 rfl rfl rfl (hY.2.1 (.methodLinkNest RX1 47 yX6_insert RX6) (List.mem_of_getElem? (i := 26) rfl)) knRX6 (by decide +kernel) ⟨Nat.le_of_ble_eq_true rfl, Nat.le_of_ble_eq_true rfl⟩, ks_X6_insert, trivial⟩ hP hD hS hA hY (fst_arr _ _ _) rfl hl.1 rfl (lv_room (Nat.le_of_ble_eq_true rfl)) dX1_add_81 ⟨Nat.zero_le _, Nat.zero_le _⟩ (fun H locs hP hD hS => ?_)
        have hP : va_P G.1 vwCl (wDis G ad o (k, if k < (hd + 1) then k else (hd + 1), ins_ 16 it (disPf (k, hd, it, ti) ia) (if k < (hd + 1) then k else (hd + 1)) ia, ti)) H := hP
        have hD : va_D A (wDis G ad o (k, if k < (hd + 1) then k else (hd + 1), ins_ 16 it (disPf (k, hd, it, ti) ia) (if k < (hd + 1) then k else (hd + 1)) ia, ti)) := hD
        refine lv_aload_n hx hb dX1_add_84 rfl (lv_at hl 1 rfl) ?_
        refine va_get (D := G.1) (ci := 1) (v := .ref (ad (o+2))) (C := RX1) (T := TX1) (N := 4) hx hb hts hiX1 hown hY.1 hP 0 rfl rfl 1 (by decide) kf15 (fun _ h9 => h9) rfl dX1_add_85 ?_
        refine lv_iload_n hx hb dX1_add_88 rfl (lv_at hl 0 rfl) ?_
        refine lv_aload_n hx hb dX1_add_89 rfl (lv_at hl 1 rfl) ?_
        refine va_get (D := G.1) (ci := 1) (v := .int (if k < (hd + 1) then k else (hd + 1))) (C := RX1) (T := TX1) (N := 4) hx hb hts hiX1 hown hY.1 hP 0 rfl rfl 3 (by decide) kf22 (fun _ h9 => h9) rfl dX1_add_90 ?_
        refine lv_iload_n hx hb dX1_add_93 rfl (lv_at hl 3 rfl) ?_
        refine wrSN (List.take 2 (wDis G ad o (k, if k < (hd + 1) then k else (hd + 1), ins_ 16 it (disPf (k, hd, it, ti) ia) (if k < (hd + 1) then k else (hd + 1)) ia, ti))) [(ad (o+2), .inl (G.2.1, 16, .inl ti))] [] [(ad (o+2), .inl (G.2.1, 16, .inl (ins_ 16 ti (disPf (k, hd, it, ti) ia) (if k < (hd + 1) then k else (hd + 1)) oa)))] (As := [.ref (ad (o+2)), .int (disPf (k, hd, it, ti) ia), .int (if k < (hd + 1) then k else (hd + 1)), .int oa]) (rest := []) CF (k_X6_insert l G 16 (ad (o+2)) ti (disPf (k, hd, it, ti) ia) (if k < (hd + 1) then k else (hd + 1)) oa (by decide)) ⟨va_cnB 4 hts gX1_add_X6_insert_n47 rfl rfl rfl (hY.2.1 (.methodLinkNest RX1 47 yX6_insert RX6) (List.mem_of_getElem? (i := 26) rfl)) knRX6 (by decide +kernel) ⟨Nat.le_of_ble_eq_true rfl, Nat.le_of_ble_eq_true rfl⟩, ks_X6_insert, trivial⟩ hP hD hS hA hY (fst_arr _ _ _) rfl hl.1 rfl (lv_room (Nat.le_of_ble_eq_true rfl)) dX1_add_94 ⟨Nat.zero_le _, Nat.zero_le _⟩ (fun H locs hP hD hS => ?_)
        have hP : va_P G.1 vwCl (wDis G ad o (k, if k < (hd + 1) then k else (hd + 1), ins_ 16 it (disPf (k, hd, it, ti) ia) (if k < (hd + 1) then k else (hd + 1)) ia, ins_ 16 ti (disPf (k, hd, it, ti) ia) (if k < (hd + 1) then k else (hd + 1)) oa)) H := hP
        have hD : va_D A (wDis G ad o (k, if k < (hd + 1) then k else (hd + 1), ins_ 16 it (disPf (k, hd, it, ti) ia) (if k < (hd + 1) then k else (hd + 1)) ia, ins_ 16 ti (disPf (k, hd, it, ti) ia) (if k < (hd + 1) then k else (hd + 1)) oa)) := hD
        exact wr_vret hx hb hr hlk hS hP (by first | with_reducible rfl | (simp only [disAdd, disIns, sld_eq, h11_1, h23_3, h50_4, ↓reduceIte]; done)) dX1_add_97
      · exact wr_vret hx hb hr hlk hS hP (by first | with_reducible rfl | (simp only [disAdd, disIns, sld_eq, h11_1, h23_3, h50_4, ↓reduceIte]; done)) dX1_add_53
    · refine lv_aload_n hx hb dX1_add_26 rfl (lv_at hl 1 rfl) ?_
      refine va_get (D := G.1) (ci := 1) (v := .ref (ad (o+2))) (C := RX1) (T := TX1) (N := 4) hx hb hts hiX1 hown hY.1 hP 0 rfl rfl 1 (by decide) kf15 (fun _ h9 => h9) rfl dX1_add_27 ?_
      refine lv_iload_n hx hb dX1_add_30 rfl (lv_at hl 0 rfl) ?_
      refine lv_aload_n hx hb dX1_add_31 rfl (lv_at hl 1 rfl) ?_
      refine va_get (D := G.1) (ci := 1) (v := .ref (ad (o+2))) (C := RX1) (T := TX1) (N := 4) hx hb hts hiX1 hown hY.1 hP 0 rfl rfl 1 (by decide) kf15 (fun _ h9 => h9) rfl dX1_add_32 ?_
      refine lv_iload_n hx hb dX1_add_35 rfl (lv_at hl 0 rfl) ?_
      refine rdSN (w0 := [(ad (o+2), .inl (G.2.1, 16, .inl ti))]) (As := [.ref (ad (o+2)), .int (disPf (k, hd, it, ti) ia)]) (rest := [.int (disPf (k, hd, it, ti) ia), .ref (ad (o+2))]) CF (k_X6_at l G 16 (ad (o+2)) ti (disPf (k, hd, it, ti) ia) (by decide)) ⟨va_cnB 2 hts gX1_add_X6_at_n25 rfl rfl rfl (hY.2.1 (.methodLinkNest RX1 25 yX6_at RX6) (List.mem_of_getElem? (i := 24) rfl)) knRX6 (by decide +kernel) ⟨Nat.le_of_ble_eq_true rfl, Nat.le_of_ble_eq_true rfl⟩, ks_X6_at, trivial⟩ (hP.sub (ws' := [(ad (o+2), .inl (G.2.1, 16, .inl ti))]) [2] rfl) hY rfl hl.1 rfl (lv_room (Nat.le_of_ble_eq_true rfl)) dX1_add_36 ⟨Nat.zero_le _, Nat.zero_le _⟩ ?_
      refine lv_iload_n hx hb dX1_add_39 rfl (lv_at hl 3 rfl) ?_
      refine lv_iadd hx hb dX1_add_40 ?_
      refine wrSN (List.take 2 (wDis G ad o (k, hd, it, ti))) [(ad (o+2), .inl (G.2.1, 16, .inl ti))] [] [(ad (o+2), .inl (G.2.1, 16, .inl (put_ 16 ti (disPf (k, hd, it, ti) ia) ((at_ 16 ti (disPf (k, hd, it, ti) ia)) + oa))))] (As := [.ref (ad (o+2)), .int (disPf (k, hd, it, ti) ia), .int ((at_ 16 ti (disPf (k, hd, it, ti) ia)) + oa)]) (rest := []) CF (k_X6_put l G 16 (ad (o+2)) ti (disPf (k, hd, it, ti) ia) ((at_ 16 ti (disPf (k, hd, it, ti) ia)) + oa) (by decide)) ⟨va_cnB 3 hts gX1_add_X6_put_n37 rfl rfl rfl (hY.2.1 (.methodLinkNest RX1 37 yX6_put RX6) (List.mem_of_getElem? (i := 25) rfl)) knRX6 (by decide +kernel) ⟨Nat.le_of_ble_eq_true rfl, Nat.le_of_ble_eq_true rfl⟩, ks_X6_put, trivial⟩ hP hD hS hA hY (fst_arr _ _ _) rfl hl.1 rfl (lv_room (Nat.le_of_ble_eq_true rfl)) dX1_add_41 ⟨Nat.zero_le _, Nat.zero_le _⟩ (fun H locs hP hD hS => ?_)
      have hP : va_P G.1 vwCl (wDis G ad o (k, hd, it, put_ 16 ti (disPf (k, hd, it, ti) ia) ((at_ 16 ti (disPf (k, hd, it, ti) ia)) + oa))) H := hP
      have hD : va_D A (wDis G ad o (k, hd, it, put_ 16 ti (disPf (k, hd, it, ti) ia) ((at_ 16 ti (disPf (k, hd, it, ti) ia)) + oa))) := hD
      exact wr_vret hx hb hr hlk hS hP (by first | with_reducible rfl | (simp only [disAdd, disIns, sld_eq, h11_1, eq_true h23_3, ↓reduceIte]; done)) dX1_add_44

set_option maxHeartbeats 4000000 in
set_option maxRecDepth 100000 in
theorem k_X1_estimatedCount (l : Launch) (G : GT) (ad : Nat → Nat) (o : Nat) (r : DisT) : Rd l yX1_estimatedCount wsX1_estimatedCount { frames := 1, cells := 0, slots := 0, locals := 23 } G (wDis G ad o r) [.ref (ad o)] (.long (disEst r)) := by
  refine Met.ofW (cc := cX1_estimatedCount) (maxL := 1) (ret := (some .long)) (by decide) rfl ?_
  intro p e s m args below meth c s₁ B hml hv
  obtain ⟨rfl, hP, hY⟩ := hv
  have hx := B.exec
  have hb := B.bytes
  have hr := B.returns
  have hts := atoms_spec (ws := wsX1_estimatedCount) B.pre
  have hown : s.vm.findClass RX1 = some m.cls := findClass_of_methodNamed B.named
  have hlk := B.notSynchronized
  have CF : CallFix p m c cX1_estimatedCount 1 s _ wsX1_estimatedCount RX1 := ⟨hx, hb, hml, hown, hts⟩
  have hiX1 : ∀ w ∈ wsX10, w ∈ wsX1_estimatedCount := fun w h => (List.mem_cons_of_mem _ (List.mem_append_right _ h))
  have kf22 := hts (.fieldLink RX1 22 "ReservoirReed$Distinct" "held" "I") (List.mem_cons_of_mem _ (List.mem_append_left _ (List.mem_of_getElem? (i := 0) rfl)))
  have kf18 := hts (.fieldLink RX1 18 "ReservoirReed$Distinct" "size" "I") (List.mem_cons_of_mem _ (List.mem_append_left _ (List.mem_of_getElem? (i := 1) rfl)))
  have kc57 := hts (.constantLong RX1 57 (4294967296)) (List.mem_cons_of_mem _ (List.mem_append_left _ (List.mem_of_getElem? (i := 2) rfl)))
  have kf9 := hts (.fieldLink RX1 9 "ReservoirReed$Distinct" "items" "[I") (List.mem_cons_of_mem _ (List.mem_append_left _ (List.mem_of_getElem? (i := 3) rfl)))
  have knRX6 := hts (.initialized RX6) (List.mem_cons_of_mem _ (List.mem_append_left _ (List.mem_of_getElem? (i := 5) rfl)))
  have ks_X6_at := hts (.static yX6_at) (List.mem_cons_of_mem _ (List.mem_append_left _ (List.mem_of_getElem? (i := 4) rfl)))
  have ks_X6_quotient := hts (.static yX6_quotient) (List.mem_cons_of_mem _ (List.mem_append_left _ (List.mem_of_getElem? (i := 12) rfl)))
  have hl := lv_entry ([.ref (ad o)]) (n := 1) (Nat.le_of_ble_eq_true rfl)
  rw [lg_entry_eq]
  generalize (lg_sl ([.ref (ad o)]) ++ List.replicate (1 - (lg_sl ([.ref (ad o)])).length) Slot.unset).toArray = ls at hl ⊢
  have hl : lv_has ls 1 [(0, .ref (ad o))] := hl
  refine lv_aload_n hx hb dX1_estimatedCount_0 rfl (lv_at hl 0 rfl) ?_
  refine va_get (D := G.1) (ci := 1) (v := .int r.2.1) (C := RX1) (T := TX1) (N := 4) hx hb hts hiX1 hown hY.1 hP 0 rfl rfl 3 (by decide) kf22 (fun _ h9 => h9) rfl dX1_estimatedCount_1 ?_
  refine lv_aload_n hx hb dX1_estimatedCount_4 rfl (lv_at hl 0 rfl) ?_
  refine va_get (D := G.1) (ci := 1) (v := .int r.1) (C := RX1) (T := TX1) (N := 4) hx hb hts hiX1 hown hY.1 hP 0 rfl rfl 2 (by decide) kf18 (fun _ h9 => h9) rfl dX1_estimatedCount_5 ?_
  refine lv_icmp_ge (tgt := 17) hx hb dX1_estimatedCount_8 (by decide) (fun h8_1 => ?_) (fun h8_1 => ?_)
  · refine lv_aload_n hx hb dX1_estimatedCount_17 rfl (lv_at hl 0 rfl) ?_
    refine va_get (D := G.1) (ci := 1) (v := .int r.1) (C := RX1) (T := TX1) (N := 4) hx hb hts hiX1 hown hY.1 hP 0 rfl rfl 2 (by decide) kf18 (fun _ h9 => h9) rfl dX1_estimatedCount_18 ?_
    refine lv_iconst (v := 1) hx hb dX1_estimatedCount_21 (by decide) ?_
    refine lv_isub hx hb dX1_estimatedCount_22 ?_
    refine lv_i2l hx hb dX1_estimatedCount_23 rfl ?_
    refine lv_ldc2 hx hb hown kc57 dX1_estimatedCount_24 ?_
    refine lv_lmul hx hb dX1_estimatedCount_27 ?_
    refine lv_aload_n hx hb dX1_estimatedCount_28 rfl (lv_at hl 0 rfl) ?_
    refine va_get (D := G.1) (ci := 1) (v := .ref (ad (o+1))) (C := RX1) (T := TX1) (N := 4) hx hb hts hiX1 hown hY.1 hP 0 rfl rfl 0 (by decide) kf9 (fun _ h9 => h9) rfl dX1_estimatedCount_29 ?_
    refine lv_aload_n hx hb dX1_estimatedCount_32 rfl (lv_at hl 0 rfl) ?_
    refine va_get (D := G.1) (ci := 1) (v := .int r.1) (C := RX1) (T := TX1) (N := 4) hx hb hts hiX1 hown hY.1 hP 0 rfl rfl 2 (by decide) kf18 (fun _ h9 => h9) rfl dX1_estimatedCount_33 ?_
    refine lv_iconst (v := 1) hx hb dX1_estimatedCount_36 (by decide) ?_
    refine lv_isub hx hb dX1_estimatedCount_37 ?_
    refine rdSN (w0 := [(ad (o+1), .inl (G.2.1, 16, .inl r.2.2.1))]) (As := [.ref (ad (o+1)), .int (r.1 - 1)]) (rest := [.long (((r.1 - 1).toInt64) * 4294967296)]) CF (k_X6_at l G 16 (ad (o+1)) r.2.2.1 (r.1 - 1) (by decide)) ⟨va_cnB 2 hts gX1_estimatedCount_X6_at_n25 rfl rfl rfl (hY.2.1 (.methodLinkNest RX1 25 yX6_at RX6) (List.mem_of_getElem? (i := 24) rfl)) knRX6 (by decide +kernel) ⟨Nat.le_of_ble_eq_true rfl, Nat.le_of_ble_eq_true rfl⟩, ks_X6_at, trivial⟩ (hP.sub (ws' := [(ad (o+1), .inl (G.2.1, 16, .inl r.2.2.1))]) [1] rfl) hY rfl hl.1 rfl (lv_room (Nat.le_of_ble_eq_true rfl)) dX1_estimatedCount_38 ⟨Nat.zero_le _, Nat.zero_le _⟩ ?_
    refine rdS (w0 := ([] : va_W)) (As := [.int (at_ 16 r.2.2.1 (r.1 - 1))]) (rest := [.long (((r.1 - 1).toInt64) * 4294967296)]) CF (k_X1_hashOf l G (at_ 16 r.2.2.1 (r.1 - 1))) (va_cwS 1 hts gX1_estimatedCount_X1_hashOf rfl rfl rfl (by decide +kernel) ⟨Nat.le_of_ble_eq_true rfl, Nat.le_of_ble_eq_true rfl⟩) va_P_nil hY rfl hl.1 rfl (lv_room (Nat.le_of_ble_eq_true rfl)) dX1_estimatedCount_41 ⟨Nat.zero_le _, Nat.zero_le _⟩ ?_
    refine rdSN (w0 := ([] : va_W)) (As := [.long (((r.1 - 1).toInt64) * 4294967296), .long (hash_ (at_ 16 r.2.2.1 (r.1 - 1)))]) (rest := []) CF (k_X6_quotient l G (((r.1 - 1).toInt64) * 4294967296) (hash_ (at_ 16 r.2.2.1 (r.1 - 1)))) ⟨va_cnB 2 hts gX1_estimatedCount_X6_quotient_n59 rfl rfl rfl (hY.2.1 (.methodLinkNest RX1 59 yX6_quotient RX6) (List.mem_of_getElem? (i := 27) rfl)) knRX6 (by decide +kernel) ⟨Nat.le_of_ble_eq_true rfl, Nat.le_of_ble_eq_true rfl⟩, ks_X6_quotient, trivial⟩ va_P_nil hY rfl hl.1 rfl (lv_room (Nat.le_of_ble_eq_true rfl)) dX1_estimatedCount_44 ⟨Nat.zero_le _, Nat.zero_le _⟩ ?_
    exact rd_lret hx hb hr hlk (by first | with_reducible rfl | (simp only [disEst, sld_eq, h8_1, ↓reduceIte]; done)) dX1_estimatedCount_47
  · refine lv_aload_n hx hb dX1_estimatedCount_11 rfl (lv_at hl 0 rfl) ?_
    refine va_get (D := G.1) (ci := 1) (v := .int r.2.1) (C := RX1) (T := TX1) (N := 4) hx hb hts hiX1 hown hY.1 hP 0 rfl rfl 3 (by decide) kf22 (fun _ h9 => h9) rfl dX1_estimatedCount_12 ?_
    refine lv_i2l hx hb dX1_estimatedCount_15 rfl ?_
    exact rd_lret hx hb hr hlk (by first | with_reducible rfl | (simp only [disEst, sld_eq, h8_1, ↓reduceIte]; done)) dX1_estimatedCount_16
