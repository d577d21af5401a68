set_option maxHeartbeats 4000000 in
set_option maxRecDepth 100000 in
theorem k_X3_addAll (l : Launch) (G : GT) (ad : Nat → Nat) (o : Nat) (oq : Nat) (r q : PriT) : Wr l yX3_addAll wsX3_addAll { frames := 4, cells := 0, slots := 0, locals := 92 } G ((wPri G ad o r) ++ (wPri G ad oq q)) ((wPri G ad o (priAll r q)) ++ (wPri G ad oq q)) [.ref (ad o), .ref (ad oq)] none := by
  intro sz
  refine Met.ofW (cc := cX3_addAll) (maxL := 4) (ret := none) (by decide) rfl ?_
  intro p e s m args below meth c s₁ B hml hv
  obtain ⟨rfl, hsz, hP, hY, hD0⟩ := hv
  subst hsz
  have hD := hD0.self (sz := s.heap.size)
  generalize hAe : va_A ((wPri G ad o r) ++ (wPri G ad oq q)) s.heap.size = A at hD ⊢
  have hA : ∀ q : Nat, s.heap.size ≤ q → A q := fun q h => by rw [← hAe]; exact Or.inr h
  have hS : va_S A s.heap s.heap [] := va_S.rf
  have hx := B.exec
  have hb := B.bytes
  have hr := B.returns
  have hts := atoms_spec (ws := wsX3_addAll) B.pre
  have hown : s.vm.findClass RX3 = some m.cls := findClass_of_methodNamed B.named
  have hlk := B.notSynchronized
  have CF : CallFix p m c cX3_addAll 4 s _ wsX3_addAll RX3 := ⟨hx, hb, hml, hown, hts⟩
  have hiX3 : ∀ w ∈ wsX30, w ∈ wsX3_addAll := fun w h => (List.mem_cons_of_mem _ (List.mem_append_right _ h))
  have kf28 := hts (.fieldLink RX3 28 "ReservoirReed$Priorities" "held" "I") (List.mem_cons_of_mem _ (List.mem_append_left _ (List.mem_append_left _ (List.mem_of_getElem? (i := 0) rfl))))
  have kf9 := hts (.fieldLink RX3 9 "ReservoirReed$Priorities" "items" "[I") (List.mem_cons_of_mem _ (List.mem_append_left _ (List.mem_append_left _ (List.mem_of_getElem? (i := 1) rfl))))
  have knRX6 := hts (.initialized RX6) (List.mem_cons_of_mem _ (List.mem_append_left _ (List.mem_append_left _ (List.mem_of_getElem? (i := 6) rfl))))
  have ks_X6_at := hts (.static yX6_at) (List.mem_cons_of_mem _ (List.mem_append_left _ (List.mem_append_left _ (List.mem_of_getElem? (i := 5) rfl))))
  have kf15 := hts (.fieldLink RX3 15 "ReservoirReed$Priorities" "weights" "[I") (List.mem_cons_of_mem _ (List.mem_append_left _ (List.mem_append_left _ (List.mem_of_getElem? (i := 2) rfl))))
  have kf18 := hts (.fieldLink RX3 18 "ReservoirReed$Priorities" "groups" "[I") (List.mem_cons_of_mem _ (List.mem_append_left _ (List.mem_append_left _ (List.mem_of_getElem? (i := 3) rfl))))
  have kf21 := hts (.fieldLink RX3 21 "ReservoirReed$Priorities" "dice" "[I") (List.mem_cons_of_mem _ (List.mem_append_left _ (List.mem_append_left _ (List.mem_of_getElem? (i := 4) rfl))))
  have hl := lv_entry ([.ref (ad o), .ref (ad oq)]) (n := 4) (Nat.le_of_ble_eq_true rfl)
  rw [lg_entry_eq]
  generalize (lg_sl ([.ref (ad o), .ref (ad oq)]) ++ List.replicate (4 - (lg_sl ([.ref (ad o), .ref (ad oq)])).length) Slot.unset).toArray = ls at hl ⊢
  have hl : lv_has ls 4 [(0, .ref (ad o)), (1, .ref (ad oq))] := hl
  refine lv_aload_n hx hb dX3_addAll_0 rfl (lv_at hl 1 rfl) ?_
  refine va_get (D := G.1) (ci := 3) (v := .int q.2.1) (C := RX3) (T := TX3) (N := 6) hx hb hts hiX3 hown hY.1 hP 5 rfl rfl 5 (by decide) kf28 (fun _ h9 => h9) rfl dX3_addAll_1 ?_
  refine lv_istore_n (lv' := [(2, .int q.2.1), (0, .ref (ad o)), (1, .ref (ad oq))]) hx hb dX3_addAll_4 rfl hl (by decide) rfl (fun ls hl => ?_)
  refine lv_iconst (v := 0) hx hb dX3_addAll_5 (by decide) ?_
  refine lv_istore_n (lv' := [(3, .int 0), (2, .int q.2.1), (0, .ref (ad o)), (1, .ref (ad oq))]) hx hb dX3_addAll_6 rfl hl (by decide) rfl (fun ls hl => ?_)
  have loop1 : ∀ (fu : Nat) (i : Int32) (rr : PriT), (q.2.1.toInt - i.toInt).toNat < fu → paL q q.2.1 fu i rr = paL q q.2.1 ((q.2.1.toInt - ((0 : Int32)).toInt).toNat + 1) 0 r → ∀ (H : Heap) (locs : List Loc) (ls : Array Slot), va_P G.1 vwCl ((wPri G ad o rr) ++ (wPri G ad oq q)) H → va_D A ((wPri G ad o rr) ++ (wPri G ad oq q)) → va_S A s.heap H locs → lv_has ls 4 [(3, .int i), (2, .int q.2.1), (0, .ref (ad o)), (1, .ref (ad oq))] → W p l e (headSpec wsX3_addAll { frames := 4, cells := 0, slots := 0, locals := 92 }).room s m ([.ref (ad o), .ref (ad oq)] : List Value).toArray below meth c H locs 0 0 (MQ below (WQ none G ((wPri G ad o (priAll r q)) ++ (wPri G ad oq q)) A) ([.ref (ad o), .ref (ad oq)] : List Value).toArray s 0 0 A) (F0 m 7 ls []) := by
    intro fu
    induction fu with
    | zero => intro i rr hm; exact absurd hm (Nat.not_lt_zero _)
    | succ fu ih =>
      intro i rr hm hR1  H locs ls hP hD hS hl
      refine lv_iload_n hx hb dX3_addAll_7 rfl (lv_at hl 0 rfl) ?_
      refine lv_iload_n hx hb dX3_addAll_8 rfl (lv_at hl 1 rfl) ?_
      refine lv_icmp_ge (tgt := 54) hx hb dX3_addAll_9 (by decide) (fun h9_1 => ?_) (fun h9_1 => ?_)
      · exact wr_vret hx hb hr hlk hS hP (by first | (simp only [priAll, sld_eq, ↓reduceIte]; rw [← hR1]; simp only [paL, h9_1, ↓reduceIte]) | (rw [← hR1]; simp only [paL, h9_1, ↓reduceIte])) dX3_addAll_54
      · refine lv_aload_n hx hb dX3_addAll_12 rfl (lv_at hl 2 rfl) ?_
        refine lv_aload_n hx hb dX3_addAll_13 rfl (lv_at hl 3 rfl) ?_
        refine va_get (D := G.1) (ci := 3) (v := .ref (ad (oq+1))) (C := RX3) (T := TX3) (N := 6) hx hb hts hiX3 hown hY.1 hP 5 rfl rfl 0 (by decide) kf9 (fun _ h9 => h9) rfl dX3_addAll_14 ?_
        refine lv_iload_n hx hb dX3_addAll_17 rfl (lv_at hl 0 rfl) ?_
        refine rdSN (w0 := [(ad (oq+1), .inl (G.2.1, 17, .inl q.2.2.1))]) (As := [.ref (ad (oq+1)), .int i]) (rest := [.ref (ad o)]) CF (k_X6_at l G 17 (ad (oq+1)) q.2.2.1 i (by decide)) ⟨va_cnB 2 hts gX3_addAll_X6_at_n31 rfl rfl rfl (hY.2.1 (.methodLinkNest RX3 31 yX6_at RX6) (List.mem_of_getElem? (i := 29) rfl)) knRX6 (by decide +kernel) ⟨Nat.le_of_ble_eq_true rfl, Nat.le_of_ble_eq_true rfl⟩, ks_X6_at, trivial⟩ (hP.sub (ws' := [(ad (oq+1), .inl (G.2.1, 17, .inl q.2.2.1))]) [6] rfl) hY rfl hl.1 rfl (lv_room (Nat.le_of_ble_eq_true rfl)) dX3_addAll_18 ⟨Nat.zero_le _, Nat.zero_le _⟩ ?_
        refine lv_aload_n hx hb dX3_addAll_21 rfl (lv_at hl 3 rfl) ?_
        refine va_get (D := G.1) (ci := 3) (v := .ref (ad (oq+2))) (C := RX3) (T := TX3) (N := 6) hx hb hts hiX3 hown hY.1 hP 5 rfl rfl 1 (by decide) kf15 (fun _ h9 => h9) rfl dX3_addAll_22 ?_
        refine lv_iload_n hx hb dX3_addAll_25 rfl (lv_at hl 0 rfl) ?_
        refine rdSN (w0 := [(ad (oq+2), .inl (G.2.1, 17, .inl q.2.2.2.1))]) (As := [.ref (ad (oq+2)), .int i]) (rest := [.int (at_ 17 q.2.2.1 i), .ref (ad o)]) CF (k_X6_at l G 17 (ad (oq+2)) q.2.2.2.1 i (by decide)) ⟨va_cnB 2 hts gX3_addAll_X6_at_n31 rfl rfl rfl (hY.2.1 (.methodLinkNest RX3 31 yX6_at RX6) (List.mem_of_getElem? (i := 29) rfl)) knRX6 (by decide +kernel) ⟨Nat.le_of_ble_eq_true rfl, Nat.le_of_ble_eq_true rfl⟩, ks_X6_at, trivial⟩ (hP.sub (ws' := [(ad (oq+2), .inl (G.2.1, 17, .inl q.2.2.2.1))]) [7] rfl) hY rfl hl.1 rfl (lv_room (Nat.le_of_ble_eq_true rfl)) dX3_addAll_26 ⟨Nat.zero_le _, Nat.zero_le _⟩ ?_
        refine lv_aload_n hx hb dX3_addAll_29 rfl (lv_at hl 3 rfl) ?_
        refine va_get (D := G.1) (ci := 3) (v := .ref (ad (oq+3))) (C := RX3) (T := TX3) (N := 6) hx hb hts hiX3 hown hY.1 hP 5 rfl rfl 2 (by decide) kf18 (fun _ h9 => h9) rfl dX3_addAll_30 ?_
        refine lv_iload_n hx hb dX3_addAll_33 rfl (lv_at hl 0 rfl) ?_
        refine rdSN (w0 := [(ad (oq+3), .inl (G.2.1, 17, .inl q.2.2.2.2.1))]) (As := [.ref (ad (oq+3)), .int i]) (rest := [.int (at_ 17 q.2.2.2.1 i), .int (at_ 17 q.2.2.1 i), .ref (ad o)]) CF (k_X6_at l G 17 (ad (oq+3)) q.2.2.2.2.1 i (by decide)) ⟨va_cnB 2 hts gX3_addAll_X6_at_n31 rfl rfl rfl (hY.2.1 (.methodLinkNest RX3 31 yX6_at RX6) (List.mem_of_getElem? (i := 29) rfl)) knRX6 (by decide +kernel) ⟨Nat.le_of_ble_eq_true rfl, Nat.le_of_ble_eq_true rfl⟩, ks_X6_at, trivial⟩ (hP.sub (ws' := [(ad (oq+3), .inl (G.2.1, 17, .inl q.2.2.2.2.1))]) [8] rfl) hY rfl hl.1 rfl (lv_room (Nat.le_of_ble_eq_true rfl)) dX3_addAll_34 ⟨Nat.zero_le _, Nat.zero_le _⟩ ?_
        refine lv_aload_n hx hb dX3_addAll_37 rfl (lv_at hl 3 rfl) ?_
        refine va_get (D := G.1) (ci := 3) (v := .ref (ad (oq+4))) (C := RX3) (T := TX3) (N := 6) hx hb hts hiX3 hown hY.1 hP 5 rfl rfl 3 (by decide) kf21 (fun _ h9 => h9) rfl dX3_addAll_38 ?_
        refine lv_iload_n hx hb dX3_addAll_41 rfl (lv_at hl 0 rfl) ?_
        refine rdSN (w0 := [(ad (oq+4), .inl (G.2.1, 17, .inl q.2.2.2.2.2))]) (As := [.ref (ad (oq+4)), .int i]) (rest := [.int (at_ 17 q.2.2.2.2.1 i), .int (at_ 17 q.2.2.2.1 i), .int (at_ 17 q.2.2.1 i), .ref (ad o)]) CF (k_X6_at l G 17 (ad (oq+4)) q.2.2.2.2.2 i (by decide)) ⟨va_cnB 2 hts gX3_addAll_X6_at_n31 rfl rfl rfl (hY.2.1 (.methodLinkNest RX3 31 yX6_at RX6) (List.mem_of_getElem? (i := 29) rfl)) knRX6 (by decide +kernel) ⟨Nat.le_of_ble_eq_true rfl, Nat.le_of_ble_eq_true rfl⟩, ks_X6_at, trivial⟩ (hP.sub (ws' := [(ad (oq+4), .inl (G.2.1, 17, .inl q.2.2.2.2.2))]) [9] rfl) hY rfl hl.1 rfl (lv_room (Nat.le_of_ble_eq_true rfl)) dX3_addAll_42 ⟨Nat.zero_le _, Nat.zero_le _⟩ ?_
        refine wrV [] (wPri G ad o rr) (List.drop 5 ((wPri G ad o rr) ++ (wPri G ad oq q))) (wPri G ad o (priAdd rr (at_ 17 q.2.2.1 i) (at_ 17 q.2.2.2.1 i) (at_ 17 q.2.2.2.2.1 i) (at_ 17 q.2.2.2.2.2 i))) (As := [.int (at_ 17 q.2.2.1 i), .int (at_ 17 q.2.2.2.1 i), .int (at_ 17 q.2.2.2.2.1 i), .int (at_ 17 q.2.2.2.2.2 i)]) (rest := []) CF (k_X3_add l G ad o rr (at_ 17 q.2.2.1 i) (at_ 17 q.2.2.2.1 i) (at_ 17 q.2.2.2.2.1 i) (at_ 17 q.2.2.2.2.2 i)) (cwV 4 hts gX3_addAll_X3_add rfl rfl rfl (by decide +kernel) ⟨Nat.le_of_ble_eq_true rfl, Nat.le_of_ble_eq_true rfl⟩) hP hD hS hA hY rfl rfl (fst_Pri _ _ _ _ _) rfl hl.1 rfl (lv_room (Nat.le_of_ble_eq_true rfl)) dX3_addAll_45 ⟨Nat.zero_le _, Nat.zero_le _⟩ (fun H locs hP hD hS => ?_)
        have hP : va_P G.1 vwCl ((wPri G ad o (priAdd rr (at_ 17 q.2.2.1 i) (at_ 17 q.2.2.2.1 i) (at_ 17 q.2.2.2.2.1 i) (at_ 17 q.2.2.2.2.2 i))) ++ (wPri G ad oq q)) H := hP
        have hD : va_D A ((wPri G ad o (priAdd rr (at_ 17 q.2.2.1 i) (at_ 17 q.2.2.2.1 i) (at_ 17 q.2.2.2.2.1 i) (at_ 17 q.2.2.2.2.2 i))) ++ (wPri G ad oq q)) := hD
        refine lv_iinc (v := i + 1) (lv' := [(3, .int (i + 1)), (2, .int q.2.1), (0, .ref (ad o)), (1, .ref (ad oq))]) hx hb dX3_addAll_48 hl (k := 0) rfl rfl (by decide) rfl (fun ls hl => ?_)
        refine lv_goto (tgt := 7) hx hb dX3_addAll_51 (by decide) ?_
        exact ih (i + 1) (priAdd rr (at_ 17 q.2.2.1 i) (at_ 17 q.2.2.2.1 i) (at_ 17 q.2.2.2.2.1 i) (at_ 17 q.2.2.2.2.2 i)) (ms_up h9_1 hm) (by rw [← hR1]; simp only [paL, h9_1, ↓reduceIte])  _ _ ls hP hD hS (lv_sub hl [0, 1, 2, 3] rfl)
  exact loop1 _ 0 r (Nat.lt_succ_self _) rfl  _ _ ls hP hD hS (lv_sub hl [0, 1, 2, 3] rfl)
