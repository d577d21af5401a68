set_option maxHeartbeats 40000000 in
set_option maxRecDepth 100000 in
theorem k_L_refuses (l : Launch) (hl0 : l.stackTraces = false) (G : GT) (ad : Nat → Nat) (o : Nat) (sg : RRT) (kk x nn oo : Int32) (hnn : (x - x / 2 * 2 = 0 ∧ nn = -1 - (x - x / 60 * 60) ∧ oo = -1 - (x - x / 60 * 60)) ∨ (¬ x - x / 2 * 2 = 0 ∧ nn = 3 + (x - x / 60 * 60) ∧ oo = kk + (x - x / 60 * 60))) (hn1 : ¬ okA nn 0 1) (hn2 : ¬ okA nn 0 2) (hi : ¬ okA (-1 - x) 0 1000000) (hw : ¬ okA (1000001 + x) 1 1000000) (hq : ¬ okA (4 + x) 0 3) (hf : ¬ okA (-1 - x) 0 2147483647) (p1 : ¬ okP oo (resFilled (rrStr sg 0).2.2.2.1)) (p2 : ¬ okP oo (resFilled (rrStr sg 1).2.2.2.1)) (p3 : ¬ okP oo (resFilled (strGrp (rrStr sg 1) 3).2)) (p4 : ¬ okP oo (priSampled (rrPri sg 2))) (p5 : ¬ okP oo (priSampled (rrPri (rrMP sg 2) 0))) (p6 : ¬ okP oo (rrDis (rrMP (rrMP sg 2) 0) 2).2.1) (p7 : ¬ okP oo (rrDis (rrMD (rrMP (rrMP sg 2) 0) 2) 1).2.1) : Ck 41 41 246 l yL_refuses wsL_refuses { frames := 9, cells := 41, slots := 246, locals := 200 } G (wRR G ad o sg) (wRR G ad o (rrMD (rrMD (rrMP (rrMP sg 2) 0) 2) 1)) [.ref (ad o), .int kk, .int x] (some (.int 1)) := by
  intro sz
  refine Met.ofW (cc := cL_refuses) (maxL := 6) (ret := (some .boolean)) (by decide) rfl ?_
  intro p e s m args below meth c s₁ B hml hv
  obtain ⟨rfl, hsz, hP, hY, hD0, hZ0⟩ := hv
  subst hsz
  have hD := hD0.self (sz := s.heap.size)
  generalize hAe : va_A (wRR G ad o sg) s.heap.size = A at hD hZ0 ⊢
  have hZ : Zs A s s.heap := hZ0
  have hA : ∀ q : Nat, s.heap.size ≤ q → A q := fun q h => by rw [← hAe]; exact Or.inr h
  have hS : va_S A s.heap s.heap [] := va_S.rf
  have hx := B.exec
  have hb := B.bytes
  have hr := B.returns
  have hts := atoms_spec (ws := wsL_refuses) B.pre
  have hown : s.vm.findClass RL = some m.cls := findClass_of_methodNamed B.named
  have hlk := B.notSynchronized
  have CF : CallFix p m c cL_refuses 6 s _ wsL_refuses RL := ⟨hx, hb, hml, hown, hts⟩
  have kc15 := (hts (.constant RL 15 (-9999002)) (List.mem_cons_of_mem _ (List.mem_append_left _ (List.mem_append_left _ (List.mem_append_left _ (List.mem_append_left _ (List.mem_append_left _ (List.mem_append_left _ (List.mem_append_left _ (List.mem_append_left _ (List.mem_append_left _ (List.mem_append_left _ (List.mem_append_left _ (List.mem_of_getElem? (i := 0) rfl))))))))))))))
  have kc42 := (hts (.constant RL 42 (-9999001)) (List.mem_cons_of_mem _ (List.mem_append_left _ (List.mem_append_left _ (List.mem_append_left _ (List.mem_append_left _ (List.mem_append_left _ (List.mem_append_left _ (List.mem_append_left _ (List.mem_append_left _ (List.mem_append_left _ (List.mem_append_left _ (List.mem_append_left _ (List.mem_of_getElem? (i := 2) rfl))))))))))))))
  have kc113 := (hts (.constant RL 113 (1000001)) (List.mem_cons_of_mem _ (List.mem_append_left _ (List.mem_append_left _ (List.mem_append_left _ (List.mem_append_left _ (List.mem_append_left _ (List.mem_append_left _ (List.mem_append_left _ (List.mem_append_left _ (List.mem_append_left _ (List.mem_append_left _ (List.mem_append_left _ (List.mem_of_getElem? (i := 1) rfl))))))))))))))
  have kc63 := (hts (.constantLong RL 63 (-9999002)) (List.mem_cons_of_mem _ (List.mem_append_left _ (List.mem_append_left _ (List.mem_append_left _ (List.mem_append_left _ (List.mem_append_left _ (List.mem_append_left _ (List.mem_append_left _ (List.mem_append_left _ (List.mem_append_left _ (List.mem_append_left _ (List.mem_append_left _ (List.mem_of_getElem? (i := 4) rfl))))))))))))))
  have kc65 := (hts (.constantLong RL 65 (-9999001)) (List.mem_cons_of_mem _ (List.mem_append_left _ (List.mem_append_left _ (List.mem_append_left _ (List.mem_append_left _ (List.mem_append_left _ (List.mem_append_left _ (List.mem_append_left _ (List.mem_append_left _ (List.mem_append_left _ (List.mem_append_left _ (List.mem_append_left _ (List.mem_of_getElem? (i := 3) rfl))))))))))))))
  have seg3 : ∀ (H : Heap) (locs : List Loc) (ls : Array Slot), va_P G.1 vwCl (wRR G ad o (rrMP (rrMP sg 2) 0)) H → va_D A (wRR G ad o (rrMP (rrMP sg 2) 0)) → va_S A s.heap H locs → s.heap.size + 32 ≤ H.size → lv_has ls 6 [(5, .int 1), (3, .int nn), (4, .int oo), (0, .ref (ad o)), (1, .int kk), (2, .int x)] → W p l e (headSpec wsL_refuses { frames := 9, cells := 41, slots := 246, locals := 200 }).room s m ([.ref (ad o), .int kk, .int x] : List Value).toArray below meth c H locs 32 192 (MQ below (GQ 41 (some (.int 1)) G (wRR G ad o (rrMD (rrMD (rrMP (rrMP sg 2) 0) 2) 1)) A) ([.ref (ad o), .int kk, .int x] : List Value).toArray s 41 246 A) (F0 m 480 ls []) := by
    intro H locs ls hP hD hS hg hl
    refine lv_iload hx hb dL_refuses_480 (lv_at hl 0 rfl) ?_
    refine lv_if_eq (tgt := 587) hx hb dL_refuses_482 (by decide) (fun h => absurd h (by decide)) (fun _ => ?_)
    refine lv_aload_n hx hb dL_refuses_485 rfl (lv_at hl 3 rfl) ?_
    refine lv_iload_n hx hb dL_refuses_486 rfl (lv_at hl 1 rfl) ?_
    have hP9 := hP
    have hD9 := hD
    rw [← List.append_nil (wRR G ad o (rrMP (rrMP sg 2) 0))] at hP9 hD9
    refine ckS [] (wRR G ad o (rrMP (rrMP sg 2) 0)) [] (wRR G ad o (rrMP (rrMP sg 2) 0)) (As := [.ref (ad o), .int nn]) (rest := []) CF (k1_L_distinctSize l hl0 G ad o (rrMP (rrMP sg 2) 0) nn hn2) (vx_cwSW 2 hts gL_refuses_L_distinctSize rfl rfl rfl (by decide +kernel) ⟨Nat.le_of_ble_eq_true rfl, Nat.le_of_ble_eq_true rfl⟩) hP9 hD9 hS hA hY hZ (fst_RR _ _ _ _ _) rfl hl.1 rfl (lv_room (Nat.le_of_ble_eq_true rfl)) dL_refuses_487 ⟨Nat.le_of_ble_eq_true rfl, Nat.le_of_ble_eq_true rfl⟩ (fun H locs hP1 hD1 hS1 hg9 => ?_)
    rw [List.append_nil] at hP1 hD1
    have hg8 : s.heap.size + 33 ≤ H.size := Nat.le_trans (Nat.add_le_add_right hg 1) hg9
    clear hP hD hS hg hP9 hD9 hg9
    have hP : va_P G.1 vwCl (wRR G ad o (rrMP (rrMP sg 2) 0)) H := hP1
    have hD : va_D A (wRR G ad o (rrMP (rrMP sg 2) 0)) := hD1
    have hS : va_S A s.heap H locs := hS1
    have hg : s.heap.size + 33 ≤ H.size := hg8
    clear hP1 hD1 hS1 hg8
    refine lv_ldc hx hb hown kc15 dL_refuses_490 ?_
    refine lv_icmp_ne (tgt := 587) hx hb dL_refuses_492 (by decide) (fun h => absurd rfl h) (fun _ => ?_)
    refine lv_aload_n hx hb dL_refuses_495 rfl (lv_at hl 3 rfl) ?_
    refine lv_iload_n hx hb dL_refuses_496 rfl (lv_at hl 1 rfl) ?_
    refine lv_iload hx hb dL_refuses_497 (lv_at hl 2 rfl) ?_
    have hP9 := hP
    have hD9 := hD
    rw [← List.append_nil (wRR G ad o (rrMP (rrMP sg 2) 0))] at hP9 hD9
    refine ckS [] (wRR G ad o (rrMP (rrMP sg 2) 0)) [] (wRR G ad o (rrMP (rrMP sg 2) 0)) (As := [.ref (ad o), .int nn, .int oo]) (rest := []) CF (k1_L_distinctItem l hl0 G ad o (rrMP (rrMP sg 2) 0) nn oo hn2) (vx_cwSW 3 hts gL_refuses_L_distinctItem rfl rfl rfl (by decide +kernel) ⟨Nat.le_of_ble_eq_true rfl, Nat.le_of_ble_eq_true rfl⟩) hP9 hD9 hS hA hY hZ (fst_RR _ _ _ _ _) rfl hl.1 rfl (lv_room (Nat.le_of_ble_eq_true rfl)) dL_refuses_499 ⟨Nat.le_of_ble_eq_true rfl, Nat.le_of_ble_eq_true rfl⟩ (fun H locs hP1 hD1 hS1 hg9 => ?_)
    rw [List.append_nil] at hP1 hD1
    have hg8 : s.heap.size + 34 ≤ H.size := Nat.le_trans (Nat.add_le_add_right hg 1) hg9
    clear hP hD hS hg hP9 hD9 hg9
    have hP : va_P G.1 vwCl (wRR G ad o (rrMP (rrMP sg 2) 0)) H := hP1
    have hD : va_D A (wRR G ad o (rrMP (rrMP sg 2) 0)) := hD1
    have hS : va_S A s.heap H locs := hS1
    have hg : s.heap.size + 34 ≤ H.size := hg8
    clear hP1 hD1 hS1 hg8
    refine lv_ldc hx hb hown kc15 dL_refuses_502 ?_
    refine lv_icmp_ne (tgt := 587) hx hb dL_refuses_504 (by decide) (fun h => absurd rfl h) (fun _ => ?_)
    refine lv_aload_n hx hb dL_refuses_507 rfl (lv_at hl 3 rfl) ?_
    refine lv_iconst (v := 2) hx hb dL_refuses_508 (by decide) ?_
    refine lv_iload hx hb dL_refuses_509 (lv_at hl 2 rfl) ?_
    have hP9 := hP
    have hD9 := hD
    rw [← List.append_nil (wRR G ad o (rrMP (rrMP sg 2) 0))] at hP9 hD9
    refine ckS [] (wRR G ad o (rrMP (rrMP sg 2) 0)) [] (wRR G ad o (rrMD (rrMP (rrMP sg 2) 0) 2)) (As := [.ref (ad o), .int 2, .int oo]) (rest := []) CF (k2_L_distinctItem l hl0 G ad o (rrMP (rrMP sg 2) 0) 2 oo (by decide +kernel) p6) (vx_cwSW 3 hts gL_refuses_L_distinctItem rfl rfl rfl (by decide +kernel) ⟨Nat.le_of_ble_eq_true rfl, Nat.le_of_ble_eq_true rfl⟩) hP9 hD9 hS hA hY hZ (fst_RR _ _ _ _ _) rfl hl.1 rfl (lv_room (Nat.le_of_ble_eq_true rfl)) dL_refuses_511 ⟨Nat.le_of_ble_eq_true rfl, Nat.le_of_ble_eq_true rfl⟩ (fun H locs hP1 hD1 hS1 hg9 => ?_)
    rw [List.append_nil] at hP1 hD1
    have hg8 : s.heap.size + 35 ≤ H.size := Nat.le_trans (Nat.add_le_add_right hg 1) hg9
    clear hP hD hS hg hP9 hD9 hg9
    have hP : va_P G.1 vwCl (wRR G ad o (rrMD (rrMP (rrMP sg 2) 0) 2)) H := hP1
    have hD : va_D A (wRR G ad o (rrMD (rrMP (rrMP sg 2) 0) 2)) := hD1
    have hS : va_S A s.heap H locs := hS1
    have hg : s.heap.size + 35 ≤ H.size := hg8
    clear hP1 hD1 hS1 hg8
    refine lv_ldc hx hb hown kc42 dL_refuses_514 ?_
    refine lv_icmp_ne (tgt := 587) hx hb dL_refuses_516 (by decide) (fun h => absurd rfl h) (fun _ => ?_)
    refine lv_aload_n hx hb dL_refuses_519 rfl (lv_at hl 3 rfl) ?_
    refine lv_iconst (v := 1) hx hb dL_refuses_520 (by decide) ?_
    refine lv_iload hx hb dL_refuses_521 (lv_at hl 2 rfl) ?_
    have hP9 := hP
    have hD9 := hD
    rw [← List.append_nil (wRR G ad o (rrMD (rrMP (rrMP sg 2) 0) 2))] at hP9 hD9
    refine ckS [] (wRR G ad o (rrMD (rrMP (rrMP sg 2) 0) 2)) [] (wRR G ad o (rrMD (rrMD (rrMP (rrMP sg 2) 0) 2) 1)) (As := [.ref (ad o), .int 1, .int oo]) (rest := []) CF (k2_L_distinctOffers l hl0 G ad o (rrMD (rrMP (rrMP sg 2) 0) 2) 1 oo (by decide +kernel) p7) (vx_cwSW 3 hts gL_refuses_L_distinctOffers rfl rfl rfl (by decide +kernel) ⟨Nat.le_of_ble_eq_true rfl, Nat.le_of_ble_eq_true rfl⟩) hP9 hD9 hS hA hY hZ (fst_RR _ _ _ _ _) rfl hl.1 rfl (lv_room (Nat.le_of_ble_eq_true rfl)) dL_refuses_523 ⟨Nat.le_of_ble_eq_true rfl, Nat.le_of_ble_eq_true rfl⟩ (fun H locs hP1 hD1 hS1 hg9 => ?_)
    rw [List.append_nil] at hP1 hD1
    have hg8 : s.heap.size + 36 ≤ H.size := Nat.le_trans (Nat.add_le_add_right hg 1) hg9
    clear hP hD hS hg hP9 hD9 hg9
    have hP : va_P G.1 vwCl (wRR G ad o (rrMD (rrMD (rrMP (rrMP sg 2) 0) 2) 1)) H := hP1
    have hD : va_D A (wRR G ad o (rrMD (rrMD (rrMP (rrMP sg 2) 0) 2) 1)) := hD1
    have hS : va_S A s.heap H locs := hS1
    have hg : s.heap.size + 36 ≤ H.size := hg8
    clear hP1 hD1 hS1 hg8
    refine lv_ldc hx hb hown kc42 dL_refuses_526 ?_
    refine lv_icmp_ne (tgt := 587) hx hb dL_refuses_528 (by decide) (fun h => absurd rfl h) (fun _ => ?_)
    refine lv_aload_n hx hb dL_refuses_531 rfl (lv_at hl 3 rfl) ?_
    refine lv_iload_n hx hb dL_refuses_532 rfl (lv_at hl 1 rfl) ?_
    have hP9 := hP
    have hD9 := hD
    rw [← List.append_nil (wRR G ad o (rrMD (rrMD (rrMP (rrMP sg 2) 0) 2) 1))] at hP9 hD9
    refine ckS [] (wRR G ad o (rrMD (rrMD (rrMP (rrMP sg 2) 0) 2) 1)) [] (wRR G ad o (rrMD (rrMD (rrMP (rrMP sg 2) 0) 2) 1)) (As := [.ref (ad o), .int nn]) (rest := []) CF (k1_L_distinctEstimate l hl0 G ad o (rrMD (rrMD (rrMP (rrMP sg 2) 0) 2) 1) nn hn2) (vx_cwSW 2 hts gL_refuses_L_distinctEstimate rfl rfl rfl (by decide +kernel) ⟨Nat.le_of_ble_eq_true rfl, Nat.le_of_ble_eq_true rfl⟩) hP9 hD9 hS hA hY hZ (fst_RR _ _ _ _ _) rfl hl.1 rfl (lv_room (Nat.le_of_ble_eq_true rfl)) dL_refuses_533 ⟨Nat.le_of_ble_eq_true rfl, Nat.le_of_ble_eq_true rfl⟩ (fun H locs hP1 hD1 hS1 hg9 => ?_)
    rw [List.append_nil] at hP1 hD1
    have hg8 : s.heap.size + 37 ≤ H.size := Nat.le_trans (Nat.add_le_add_right hg 1) hg9
    clear hP hD hS hg hP9 hD9 hg9
    have hP : va_P G.1 vwCl (wRR G ad o (rrMD (rrMD (rrMP (rrMP sg 2) 0) 2) 1)) H := hP1
    have hD : va_D A (wRR G ad o (rrMD (rrMD (rrMP (rrMP sg 2) 0) 2) 1)) := hD1
    have hS : va_S A s.heap H locs := hS1
    have hg : s.heap.size + 37 ≤ H.size := hg8
    clear hP1 hD1 hS1 hg8
    refine lv_ldc2 hx hb hown kc63 dL_refuses_536 ?_
    refine W.lcmp hx hb dL_refuses_539 ?_
    refine lv_if_ne (tgt := 587) hx hb dL_refuses_540 (by decide) (fun h => absurd (by decide +kernel) h) (fun _ => ?_)
    refine lv_aload_n hx hb dL_refuses_543 rfl (lv_at hl 3 rfl) ?_
    refine lv_iconst (v := 2) hx hb dL_refuses_544 (by decide) ?_
    have hP9 := hP
    have hD9 := hD
    rw [← List.append_nil (wRR G ad o (rrMD (rrMD (rrMP (rrMP sg 2) 0) 2) 1))] at hP9 hD9
    refine ckS [] (wRR G ad o (rrMD (rrMD (rrMP (rrMP sg 2) 0) 2) 1)) [] (wRR G ad o (rrMD (rrMD (rrMP (rrMP sg 2) 0) 2) 1)) (As := [.ref (ad o), .int 2]) (rest := []) CF (k1_L_windowItem l hl0 G ad o (rrMD (rrMD (rrMP (rrMP sg 2) 0) 2) 1) 2 (by decide +kernel)) (vx_cwSW 2 hts gL_refuses_L_windowItem rfl rfl rfl (by decide +kernel) ⟨Nat.le_of_ble_eq_true rfl, Nat.le_of_ble_eq_true rfl⟩) hP9 hD9 hS hA hY hZ (fst_RR _ _ _ _ _) rfl hl.1 rfl (lv_room (Nat.le_of_ble_eq_true rfl)) dL_refuses_545 ⟨Nat.le_of_ble_eq_true rfl, Nat.le_of_ble_eq_true rfl⟩ (fun H locs hP1 hD1 hS1 hg9 => ?_)
    rw [List.append_nil] at hP1 hD1
    have hg8 : s.heap.size + 38 ≤ H.size := Nat.le_trans (Nat.add_le_add_right hg 1) hg9
    clear hP hD hS hg hP9 hD9 hg9
    have hP : va_P G.1 vwCl (wRR G ad o (rrMD (rrMD (rrMP (rrMP sg 2) 0) 2) 1)) H := hP1
    have hD : va_D A (wRR G ad o (rrMD (rrMD (rrMP (rrMP sg 2) 0) 2) 1)) := hD1
    have hS : va_S A s.heap H locs := hS1
    have hg : s.heap.size + 38 ≤ H.size := hg8
    clear hP1 hD1 hS1 hg8
    refine lv_ldc hx hb hown kc15 dL_refuses_548 ?_
    refine lv_icmp_ne (tgt := 587) hx hb dL_refuses_550 (by decide) (fun h => absurd rfl h) (fun _ => ?_)
    refine lv_aload_n hx hb dL_refuses_553 rfl (lv_at hl 3 rfl) ?_
    refine lv_iload_n hx hb dL_refuses_554 rfl (lv_at hl 1 rfl) ?_
    have hP9 := hP
    have hD9 := hD
    rw [← List.append_nil (wRR G ad o (rrMD (rrMD (rrMP (rrMP sg 2) 0) 2) 1))] at hP9 hD9
    refine ckS [] (wRR G ad o (rrMD (rrMD (rrMP (rrMP sg 2) 0) 2) 1)) [] (wRR G ad o (rrMD (rrMD (rrMP (rrMP sg 2) 0) 2) 1)) (As := [.ref (ad o), .int nn]) (rest := []) CF (k1_L_windowPosition l hl0 G ad o (rrMD (rrMD (rrMP (rrMP sg 2) 0) 2) 1) nn hn1) (vx_cwSW 2 hts gL_refuses_L_windowPosition rfl rfl rfl (by decide +kernel) ⟨Nat.le_of_ble_eq_true rfl, Nat.le_of_ble_eq_true rfl⟩) hP9 hD9 hS hA hY hZ (fst_RR _ _ _ _ _) rfl hl.1 rfl (lv_room (Nat.le_of_ble_eq_true rfl)) dL_refuses_555 ⟨Nat.le_of_ble_eq_true rfl, Nat.le_of_ble_eq_true rfl⟩ (fun H locs hP1 hD1 hS1 hg9 => ?_)
    rw [List.append_nil] at hP1 hD1
    have hg8 : s.heap.size + 39 ≤ H.size := Nat.le_trans (Nat.add_le_add_right hg 1) hg9
    clear hP hD hS hg hP9 hD9 hg9
    have hP : va_P G.1 vwCl (wRR G ad o (rrMD (rrMD (rrMP (rrMP sg 2) 0) 2) 1)) H := hP1
    have hD : va_D A (wRR G ad o (rrMD (rrMD (rrMP (rrMP sg 2) 0) 2) 1)) := hD1
    have hS : va_S A s.heap H locs := hS1
    have hg : s.heap.size + 39 ≤ H.size := hg8
    clear hP1 hD1 hS1 hg8
    refine lv_ldc hx hb hown kc15 dL_refuses_558 ?_
    refine lv_icmp_ne (tgt := 587) hx hb dL_refuses_560 (by decide) (fun h => absurd rfl h) (fun _ => ?_)
    refine lv_aload_n hx hb dL_refuses_563 rfl (lv_at hl 3 rfl) ?_
    refine lv_iconst (v := 2) hx hb dL_refuses_564 (by decide) ?_
    have hP9 := hP
    have hD9 := hD
    rw [← List.append_nil (wRR G ad o (rrMD (rrMD (rrMP (rrMP sg 2) 0) 2) 1))] at hP9 hD9
    refine ckS [] (wRR G ad o (rrMD (rrMD (rrMP (rrMP sg 2) 0) 2) 1)) [] (wRR G ad o (rrMD (rrMD (rrMP (rrMP sg 2) 0) 2) 1)) (As := [.ref (ad o), .int 2]) (rest := []) CF (k1_L_chainLength l hl0 G ad o (rrMD (rrMD (rrMP (rrMP sg 2) 0) 2) 1) 2 (by decide +kernel)) (vx_cwSW 2 hts gL_refuses_L_chainLength rfl rfl rfl (by decide +kernel) ⟨Nat.le_of_ble_eq_true rfl, Nat.le_of_ble_eq_true rfl⟩) hP9 hD9 hS hA hY hZ (fst_RR _ _ _ _ _) rfl hl.1 rfl (lv_room (Nat.le_of_ble_eq_true rfl)) dL_refuses_565 ⟨Nat.le_of_ble_eq_true rfl, Nat.le_of_ble_eq_true rfl⟩ (fun H locs hP1 hD1 hS1 hg9 => ?_)
    rw [List.append_nil] at hP1 hD1
    have hg8 : s.heap.size + 40 ≤ H.size := Nat.le_trans (Nat.add_le_add_right hg 1) hg9
    clear hP hD hS hg hP9 hD9 hg9
    have hP : va_P G.1 vwCl (wRR G ad o (rrMD (rrMD (rrMP (rrMP sg 2) 0) 2) 1)) H := hP1
    have hD : va_D A (wRR G ad o (rrMD (rrMD (rrMP (rrMP sg 2) 0) 2) 1)) := hD1
    have hS : va_S A s.heap H locs := hS1
    have hg : s.heap.size + 40 ≤ H.size := hg8
    clear hP1 hD1 hS1 hg8
    refine lv_ldc hx hb hown kc15 dL_refuses_568 ?_
    refine lv_icmp_ne (tgt := 587) hx hb dL_refuses_570 (by decide) (fun h => absurd rfl h) (fun _ => ?_)
    refine lv_aload_n hx hb dL_refuses_573 rfl (lv_at hl 3 rfl) ?_
    refine lv_iload_n hx hb dL_refuses_574 rfl (lv_at hl 1 rfl) ?_
    have hP9 := hP
    have hD9 := hD
    rw [← List.append_nil (wRR G ad o (rrMD (rrMD (rrMP (rrMP sg 2) 0) 2) 1))] at hP9 hD9
    refine ckS [] (wRR G ad o (rrMD (rrMD (rrMP (rrMP sg 2) 0) 2) 1)) [] (wRR G ad o (rrMD (rrMD (rrMP (rrMP sg 2) 0) 2) 1)) (As := [.ref (ad o), .int nn]) (rest := []) CF (k1_L_successor l hl0 G ad o (rrMD (rrMD (rrMP (rrMP sg 2) 0) 2) 1) nn hn1) (vx_cwSW 2 hts gL_refuses_L_successor rfl rfl rfl (by decide +kernel) ⟨Nat.le_of_ble_eq_true rfl, Nat.le_of_ble_eq_true rfl⟩) hP9 hD9 hS hA hY hZ (fst_RR _ _ _ _ _) rfl hl.1 rfl (lv_room (Nat.le_of_ble_eq_true rfl)) dL_refuses_575 ⟨Nat.le_of_ble_eq_true rfl, Nat.le_of_ble_eq_true rfl⟩ (fun H locs hP1 hD1 hS1 hg9 => ?_)
    rw [List.append_nil] at hP1 hD1
    have hg8 : s.heap.size + 41 ≤ H.size := Nat.le_trans (Nat.add_le_add_right hg 1) hg9
    clear hP hD hS hg hP9 hD9 hg9
    have hP : va_P G.1 vwCl (wRR G ad o (rrMD (rrMD (rrMP (rrMP sg 2) 0) 2) 1)) H := hP1
    have hD : va_D A (wRR G ad o (rrMD (rrMD (rrMP (rrMP sg 2) 0) 2) 1)) := hD1
    have hS : va_S A s.heap H locs := hS1
    have hg : s.heap.size + 41 ≤ H.size := hg8
    clear hP1 hD1 hS1 hg8
    refine lv_ldc hx hb hown kc15 dL_refuses_578 ?_
    refine lv_icmp_ne (tgt := 587) hx hb dL_refuses_580 (by decide) (fun h => absurd rfl h) (fun _ => ?_)
    refine lv_iconst (v := 1) hx hb dL_refuses_583 (by decide) ?_
    refine lv_goto (tgt := 588) hx hb dL_refuses_584 (by decide) ?_
    exact ck_zret hx hb hr hlk hS hP hg rfl rfl rfl dL_refuses_588
  have seg2 : ∀ (H : Heap) (locs : List Loc) (ls : Array Slot), va_P G.1 vwCl (wRR G ad o sg) H → va_D A (wRR G ad o sg) → va_S A s.heap H locs → s.heap.size + 14 ≤ H.size → lv_has ls 6 [(5, .int 1), (3, .int nn), (4, .int oo), (0, .ref (ad o)), (1, .int kk), (2, .int x)] → W p l e (headSpec wsL_refuses { frames := 9, cells := 41, slots := 246, locals := 200 }).room s m ([.ref (ad o), .int kk, .int x] : List Value).toArray below meth c H locs 14 84 (MQ below (GQ 41 (some (.int 1)) G (wRR G ad o (rrMD (rrMD (rrMP (rrMP sg 2) 0) 2) 1)) A) ([.ref (ad o), .int kk, .int x] : List Value).toArray s 41 246 A) (F0 m 259 ls []) := by
    intro H locs ls hP hD hS hg hl
    refine lv_iload hx hb dL_refuses_259 (lv_at hl 0 rfl) ?_
    refine lv_if_eq (tgt := 477) hx hb dL_refuses_261 (by decide) (fun h => absurd h (by decide)) (fun _ => ?_)
    refine lv_aload_n hx hb dL_refuses_264 rfl (lv_at hl 3 rfl) ?_
    refine lv_iconst (v := 2) hx hb dL_refuses_265 (by decide) ?_
    have hP9 := hP
    have hD9 := hD
    rw [← List.append_nil (wRR G ad o sg)] at hP9 hD9
    refine ckS [] (wRR G ad o sg) [] (wRR G ad o sg) (As := [.ref (ad o), .int 2]) (rest := []) CF (k1_L_cleared l hl0 G ad o sg 2 (by decide +kernel)) (vx_cwSW 2 hts gL_refuses_L_cleared rfl rfl rfl (by decide +kernel) ⟨Nat.le_of_ble_eq_true rfl, Nat.le_of_ble_eq_true rfl⟩) hP9 hD9 hS hA hY hZ (fst_RR _ _ _ _ _) rfl hl.1 rfl (lv_room (Nat.le_of_ble_eq_true rfl)) dL_refuses_266 ⟨Nat.le_of_ble_eq_true rfl, Nat.le_of_ble_eq_true rfl⟩ (fun H locs hP1 hD1 hS1 hg9 => ?_)
    rw [List.append_nil] at hP1 hD1
    have hg8 : s.heap.size + 15 ≤ H.size := Nat.le_trans (Nat.add_le_add_right hg 1) hg9
    clear hP hD hS hg hP9 hD9 hg9
    have hP : va_P G.1 vwCl (wRR G ad o sg) H := hP1
    have hD : va_D A (wRR G ad o sg) := hD1
    have hS : va_S A s.heap H locs := hS1
    have hg : s.heap.size + 15 ≤ H.size := hg8
    clear hP1 hD1 hS1 hg8
    refine lv_ldc hx hb hown kc15 dL_refuses_269 ?_
    refine lv_icmp_ne (tgt := 477) hx hb dL_refuses_271 (by decide) (fun h => absurd rfl h) (fun _ => ?_)
    refine lv_aload_n hx hb dL_refuses_274 rfl (lv_at hl 3 rfl) ?_
    refine lv_iload_n hx hb dL_refuses_275 rfl (lv_at hl 1 rfl) ?_
    have hP9 := hP
    have hD9 := hD
    rw [← List.append_nil (wRR G ad o sg)] at hP9 hD9
    refine ckS [] (wRR G ad o sg) [] (wRR G ad o sg) (As := [.ref (ad o), .int nn]) (rest := []) CF (k1_L_offers l hl0 G ad o sg nn hn2) (vx_cwSW 2 hts gL_refuses_L_offers rfl rfl rfl (by decide +kernel) ⟨Nat.le_of_ble_eq_true rfl, Nat.le_of_ble_eq_true rfl⟩) hP9 hD9 hS hA hY hZ (fst_RR _ _ _ _ _) rfl hl.1 rfl (lv_room (Nat.le_of_ble_eq_true rfl)) dL_refuses_276 ⟨Nat.le_of_ble_eq_true rfl, Nat.le_of_ble_eq_true rfl⟩ (fun H locs hP1 hD1 hS1 hg9 => ?_)
    rw [List.append_nil] at hP1 hD1
    have hg8 : s.heap.size + 16 ≤ H.size := Nat.le_trans (Nat.add_le_add_right hg 1) hg9
    clear hP hD hS hg hP9 hD9 hg9
    have hP : va_P G.1 vwCl (wRR G ad o sg) H := hP1
    have hD : va_D A (wRR G ad o sg) := hD1
    have hS : va_S A s.heap H locs := hS1
    have hg : s.heap.size + 16 ≤ H.size := hg8
    clear hP1 hD1 hS1 hg8
    refine lv_ldc hx hb hown kc15 dL_refuses_279 ?_
    refine lv_icmp_ne (tgt := 477) hx hb dL_refuses_281 (by decide) (fun h => absurd rfl h) (fun _ => ?_)
    refine lv_aload_n hx hb dL_refuses_284 rfl (lv_at hl 3 rfl) ?_
    refine lv_iload_n hx hb dL_refuses_285 rfl (lv_at hl 1 rfl) ?_
    refine lv_iconst (v := 0) hx hb dL_refuses_286 (by decide) ?_
    have hP9 := hP
    have hD9 := hD
    rw [← List.append_nil (wRR G ad o sg)] at hP9 hD9
    refine ckS [] (wRR G ad o sg) [] (wRR G ad o sg) (As := [.ref (ad o), .int nn, .int 0]) (rest := []) CF (k1_L_exact l hl0 G ad o sg nn 0 (fun h => hn2 h.1)) (vx_cwSW 3 hts gL_refuses_L_exact rfl rfl rfl (by decide +kernel) ⟨Nat.le_of_ble_eq_true rfl, Nat.le_of_ble_eq_true rfl⟩) hP9 hD9 hS hA hY hZ (fst_RR _ _ _ _ _) rfl hl.1 rfl (lv_room (Nat.le_of_ble_eq_true rfl)) dL_refuses_287 ⟨Nat.le_of_ble_eq_true rfl, Nat.le_of_ble_eq_true rfl⟩ (fun H locs hP1 hD1 hS1 hg9 => ?_)
    rw [List.append_nil] at hP1 hD1
    have hg8 : s.heap.size + 17 ≤ H.size := Nat.le_trans (Nat.add_le_add_right hg 1) hg9
    clear hP hD hS hg hP9 hD9 hg9
    have hP : va_P G.1 vwCl (wRR G ad o sg) H := hP1
    have hD : va_D A (wRR G ad o sg) := hD1
    have hS : va_S A s.heap H locs := hS1
    have hg : s.heap.size + 17 ≤ H.size := hg8
    clear hP1 hD1 hS1 hg8
    refine lv_ldc hx hb hown kc15 dL_refuses_290 ?_
    refine lv_icmp_ne (tgt := 477) hx hb dL_refuses_292 (by decide) (fun h => absurd rfl h) (fun _ => ?_)
    refine lv_aload_n hx hb dL_refuses_295 rfl (lv_at hl 3 rfl) ?_
    refine lv_iconst (v := 2) hx hb dL_refuses_296 (by decide) ?_
    refine lv_iconst (v := 4) hx hb dL_refuses_297 (by decide) ?_
    have hP9 := hP
    have hD9 := hD
    rw [← List.append_nil (wRR G ad o sg)] at hP9 hD9
    refine ckS [] (wRR G ad o sg) [] (wRR G ad o sg) (As := [.ref (ad o), .int 2, .int 4]) (rest := []) CF (k1_L_exact l hl0 G ad o sg 2 4 (by decide +kernel)) (vx_cwSW 3 hts gL_refuses_L_exact rfl rfl rfl (by decide +kernel) ⟨Nat.le_of_ble_eq_true rfl, Nat.le_of_ble_eq_true rfl⟩) hP9 hD9 hS hA hY hZ (fst_RR _ _ _ _ _) rfl hl.1 rfl (lv_room (Nat.le_of_ble_eq_true rfl)) dL_refuses_298 ⟨Nat.le_of_ble_eq_true rfl, Nat.le_of_ble_eq_true rfl⟩ (fun H locs hP1 hD1 hS1 hg9 => ?_)
    rw [List.append_nil] at hP1 hD1
    have hg8 : s.heap.size + 18 ≤ H.size := Nat.le_trans (Nat.add_le_add_right hg 1) hg9
    clear hP hD hS hg hP9 hD9 hg9
    have hP : va_P G.1 vwCl (wRR G ad o sg) H := hP1
    have hD : va_D A (wRR G ad o sg) := hD1
    have hS : va_S A s.heap H locs := hS1
    have hg : s.heap.size + 18 ≤ H.size := hg8
    clear hP1 hD1 hS1 hg8
    refine lv_ldc hx hb hown kc15 dL_refuses_301 ?_
    refine lv_icmp_ne (tgt := 477) hx hb dL_refuses_303 (by decide) (fun h => absurd rfl h) (fun _ => ?_)
    refine lv_aload_n hx hb dL_refuses_306 rfl (lv_at hl 3 rfl) ?_
    refine lv_iconst (v := 2) hx hb dL_refuses_307 (by decide) ?_
    have hP9 := hP
    have hD9 := hD
    rw [← List.append_nil (wRR G ad o sg)] at hP9 hD9
    refine ckS [] (wRR G ad o sg) [] (wRR G ad o sg) (As := [.ref (ad o), .int 2]) (rest := []) CF (k1_L_filled l hl0 G ad o sg 2 (by decide +kernel)) (vx_cwSW 2 hts gL_refuses_L_filled rfl rfl rfl (by decide +kernel) ⟨Nat.le_of_ble_eq_true rfl, Nat.le_of_ble_eq_true rfl⟩) hP9 hD9 hS hA hY hZ (fst_RR _ _ _ _ _) rfl hl.1 rfl (lv_room (Nat.le_of_ble_eq_true rfl)) dL_refuses_308 ⟨Nat.le_of_ble_eq_true rfl, Nat.le_of_ble_eq_true rfl⟩ (fun H locs hP1 hD1 hS1 hg9 => ?_)
    rw [List.append_nil] at hP1 hD1
    have hg8 : s.heap.size + 19 ≤ H.size := Nat.le_trans (Nat.add_le_add_right hg 1) hg9
    clear hP hD hS hg hP9 hD9 hg9
    have hP : va_P G.1 vwCl (wRR G ad o sg) H := hP1
    have hD : va_D A (wRR G ad o sg) := hD1
    have hS : va_S A s.heap H locs := hS1
    have hg : s.heap.size + 19 ≤ H.size := hg8
    clear hP1 hD1 hS1 hg8
    refine lv_ldc hx hb hown kc15 dL_refuses_311 ?_
    refine lv_icmp_ne (tgt := 477) hx hb dL_refuses_313 (by decide) (fun h => absurd rfl h) (fun _ => ?_)
    refine lv_aload_n hx hb dL_refuses_316 rfl (lv_at hl 3 rfl) ?_
    refine lv_iconst (v := 2) hx hb dL_refuses_317 (by decide) ?_
    refine lv_iload hx hb dL_refuses_318 (lv_at hl 2 rfl) ?_
    have hP9 := hP
    have hD9 := hD
    rw [← List.append_nil (wRR G ad o sg)] at hP9 hD9
    refine ckS [] (wRR G ad o sg) [] (wRR G ad o sg) (As := [.ref (ad o), .int 2, .int oo]) (rest := []) CF (k1_L_slotItem l hl0 G ad o sg 2 oo (by decide +kernel)) (vx_cwSW 3 hts gL_refuses_L_slotItem rfl rfl rfl (by decide +kernel) ⟨Nat.le_of_ble_eq_true rfl, Nat.le_of_ble_eq_true rfl⟩) hP9 hD9 hS hA hY hZ (fst_RR _ _ _ _ _) rfl hl.1 rfl (lv_room (Nat.le_of_ble_eq_true rfl)) dL_refuses_320 ⟨Nat.le_of_ble_eq_true rfl, Nat.le_of_ble_eq_true rfl⟩ (fun H locs hP1 hD1 hS1 hg9 => ?_)
    rw [List.append_nil] at hP1 hD1
    have hg8 : s.heap.size + 20 ≤ H.size := Nat.le_trans (Nat.add_le_add_right hg 1) hg9
    clear hP hD hS hg hP9 hD9 hg9
    have hP : va_P G.1 vwCl (wRR G ad o sg) H := hP1
    have hD : va_D A (wRR G ad o sg) := hD1
    have hS : va_S A s.heap H locs := hS1
    have hg : s.heap.size + 20 ≤ H.size := hg8
    clear hP1 hD1 hS1 hg8
    refine lv_ldc hx hb hown kc15 dL_refuses_323 ?_
    refine lv_icmp_ne (tgt := 477) hx hb dL_refuses_325 (by decide) (fun h => absurd rfl h) (fun _ => ?_)
    refine lv_aload_n hx hb dL_refuses_328 rfl (lv_at hl 3 rfl) ?_
    refine lv_iconst (v := 0) hx hb dL_refuses_329 (by decide) ?_
    refine lv_iload hx hb dL_refuses_330 (lv_at hl 2 rfl) ?_
    have hP9 := hP
    have hD9 := hD
    rw [← List.append_nil (wRR G ad o sg)] at hP9 hD9
    refine ckS [] (wRR G ad o sg) [] (wRR G ad o sg) (As := [.ref (ad o), .int 0, .int oo]) (rest := []) CF (k2_L_slotItem l hl0 G ad o sg 0 oo (by decide +kernel) p1) (vx_cwSW 3 hts gL_refuses_L_slotItem rfl rfl rfl (by decide +kernel) ⟨Nat.le_of_ble_eq_true rfl, Nat.le_of_ble_eq_true rfl⟩) hP9 hD9 hS hA hY hZ (fst_RR _ _ _ _ _) rfl hl.1 rfl (lv_room (Nat.le_of_ble_eq_true rfl)) dL_refuses_332 ⟨Nat.le_of_ble_eq_true rfl, Nat.le_of_ble_eq_true rfl⟩ (fun H locs hP1 hD1 hS1 hg9 => ?_)
    rw [List.append_nil] at hP1 hD1
    have hg8 : s.heap.size + 21 ≤ H.size := Nat.le_trans (Nat.add_le_add_right hg 1) hg9
    clear hP hD hS hg hP9 hD9 hg9
    have hP : va_P G.1 vwCl (wRR G ad o sg) H := hP1
    have hD : va_D A (wRR G ad o sg) := hD1
    have hS : va_S A s.heap H locs := hS1
    have hg : s.heap.size + 21 ≤ H.size := hg8
    clear hP1 hD1 hS1 hg8
    refine lv_ldc hx hb hown kc42 dL_refuses_335 ?_
    refine lv_icmp_ne (tgt := 477) hx hb dL_refuses_337 (by decide) (fun h => absurd rfl h) (fun _ => ?_)
    refine lv_aload_n hx hb dL_refuses_340 rfl (lv_at hl 3 rfl) ?_
    refine lv_iconst (v := 1) hx hb dL_refuses_341 (by decide) ?_
    refine lv_iload hx hb dL_refuses_342 (lv_at hl 2 rfl) ?_
    have hP9 := hP
    have hD9 := hD
    rw [← List.append_nil (wRR G ad o sg)] at hP9 hD9
    refine ckS [] (wRR G ad o sg) [] (wRR G ad o sg) (As := [.ref (ad o), .int 1, .int oo]) (rest := []) CF (k2_L_slotPosition l hl0 G ad o sg 1 oo (by decide +kernel) p2) (vx_cwSW 3 hts gL_refuses_L_slotPosition rfl rfl rfl (by decide +kernel) ⟨Nat.le_of_ble_eq_true rfl, Nat.le_of_ble_eq_true rfl⟩) hP9 hD9 hS hA hY hZ (fst_RR _ _ _ _ _) rfl hl.1 rfl (lv_room (Nat.le_of_ble_eq_true rfl)) dL_refuses_344 ⟨Nat.le_of_ble_eq_true rfl, Nat.le_of_ble_eq_true rfl⟩ (fun H locs hP1 hD1 hS1 hg9 => ?_)
    rw [List.append_nil] at hP1 hD1
    have hg8 : s.heap.size + 22 ≤ H.size := Nat.le_trans (Nat.add_le_add_right hg 1) hg9
    clear hP hD hS hg hP9 hD9 hg9
    have hP : va_P G.1 vwCl (wRR G ad o sg) H := hP1
    have hD : va_D A (wRR G ad o sg) := hD1
    have hS : va_S A s.heap H locs := hS1
    have hg : s.heap.size + 22 ≤ H.size := hg8
    clear hP1 hD1 hS1 hg8
    refine lv_ldc hx hb hown kc42 dL_refuses_347 ?_
    refine lv_icmp_ne (tgt := 477) hx hb dL_refuses_349 (by decide) (fun h => absurd rfl h) (fun _ => ?_)
    refine lv_aload_n hx hb dL_refuses_352 rfl (lv_at hl 3 rfl) ?_
    refine lv_iconst (v := 2) hx hb dL_refuses_353 (by decide) ?_
    refine lv_iconst (v := 0) hx hb dL_refuses_354 (by decide) ?_
    have hP9 := hP
    have hD9 := hD
    rw [← List.append_nil (wRR G ad o sg)] at hP9 hD9
    refine ckS [] (wRR G ad o sg) [] (wRR G ad o sg) (As := [.ref (ad o), .int 2, .int 0]) (rest := []) CF (k1_L_groupOffers l hl0 G ad o sg 2 0 (by decide +kernel)) (vx_cwSW 3 hts gL_refuses_L_groupOffers rfl rfl rfl (by decide +kernel) ⟨Nat.le_of_ble_eq_true rfl, Nat.le_of_ble_eq_true rfl⟩) hP9 hD9 hS hA hY hZ (fst_RR _ _ _ _ _) rfl hl.1 rfl (lv_room (Nat.le_of_ble_eq_true rfl)) dL_refuses_355 ⟨Nat.le_of_ble_eq_true rfl, Nat.le_of_ble_eq_true rfl⟩ (fun H locs hP1 hD1 hS1 hg9 => ?_)
    rw [List.append_nil] at hP1 hD1
    have hg8 : s.heap.size + 23 ≤ H.size := Nat.le_trans (Nat.add_le_add_right hg 1) hg9
    clear hP hD hS hg hP9 hD9 hg9
    have hP : va_P G.1 vwCl (wRR G ad o sg) H := hP1
    have hD : va_D A (wRR G ad o sg) := hD1
    have hS : va_S A s.heap H locs := hS1
    have hg : s.heap.size + 23 ≤ H.size := hg8
    clear hP1 hD1 hS1 hg8
    refine lv_ldc hx hb hown kc15 dL_refuses_358 ?_
    refine lv_icmp_ne (tgt := 477) hx hb dL_refuses_360 (by decide) (fun h => absurd rfl h) (fun _ => ?_)
    refine lv_aload_n hx hb dL_refuses_363 rfl (lv_at hl 3 rfl) ?_
    refine lv_iconst (v := 0) hx hb dL_refuses_364 (by decide) ?_
    refine lv_iconst (v := -1) hx hb dL_refuses_365 (by decide) ?_
    refine lv_iload hx hb dL_refuses_366 (lv_at hl 2 rfl) ?_
    have hP9 := hP
    have hD9 := hD
    rw [← List.append_nil (wRR G ad o sg)] at hP9 hD9
    refine ckS [] (wRR G ad o sg) [] (wRR G ad o sg) (As := [.ref (ad o), .int 0, .int (-1), .int oo]) (rest := []) CF (k1_L_groupItem l hl0 G ad o sg 0 (-1) oo (by decide +kernel)) (vx_cwSW 4 hts gL_refuses_L_groupItem rfl rfl rfl (by decide +kernel) ⟨Nat.le_of_ble_eq_true rfl, Nat.le_of_ble_eq_true rfl⟩) hP9 hD9 hS hA hY hZ (fst_RR _ _ _ _ _) rfl hl.1 rfl (lv_room (Nat.le_of_ble_eq_true rfl)) dL_refuses_368 ⟨Nat.le_of_ble_eq_true rfl, Nat.le_of_ble_eq_true rfl⟩ (fun H locs hP1 hD1 hS1 hg9 => ?_)
    rw [List.append_nil] at hP1 hD1
    have hg8 : s.heap.size + 24 ≤ H.size := Nat.le_trans (Nat.add_le_add_right hg 1) hg9
    clear hP hD hS hg hP9 hD9 hg9
    have hP : va_P G.1 vwCl (wRR G ad o sg) H := hP1
    have hD : va_D A (wRR G ad o sg) := hD1
    have hS : va_S A s.heap H locs := hS1
    have hg : s.heap.size + 24 ≤ H.size := hg8
    clear hP1 hD1 hS1 hg8
    refine lv_ldc hx hb hown kc15 dL_refuses_371 ?_
    refine lv_icmp_ne (tgt := 477) hx hb dL_refuses_373 (by decide) (fun h => absurd rfl h) (fun _ => ?_)
    refine lv_aload_n hx hb dL_refuses_376 rfl (lv_at hl 3 rfl) ?_
    refine lv_iconst (v := 1) hx hb dL_refuses_377 (by decide) ?_
    refine lv_iconst (v := 3) hx hb dL_refuses_378 (by decide) ?_
    refine lv_iload hx hb dL_refuses_379 (lv_at hl 2 rfl) ?_
    have hP9 := hP
    have hD9 := hD
    rw [← List.append_nil (wRR G ad o sg)] at hP9 hD9
    refine ckS [] (wRR G ad o sg) [] (wRR G ad o sg) (As := [.ref (ad o), .int 1, .int 3, .int oo]) (rest := []) CF (k2_L_groupItem l hl0 G ad o sg 1 3 oo (by decide +kernel) (by decide +kernel) p3) (vx_cwSW 4 hts gL_refuses_L_groupItem rfl rfl rfl (by decide +kernel) ⟨Nat.le_of_ble_eq_true rfl, Nat.le_of_ble_eq_true rfl⟩) hP9 hD9 hS hA hY hZ (fst_RR _ _ _ _ _) rfl hl.1 rfl (lv_room (Nat.le_of_ble_eq_true rfl)) dL_refuses_381 ⟨Nat.le_of_ble_eq_true rfl, Nat.le_of_ble_eq_true rfl⟩ (fun H locs hP1 hD1 hS1 hg9 => ?_)
    rw [List.append_nil] at hP1 hD1
    have hg8 : s.heap.size + 25 ≤ H.size := Nat.le_trans (Nat.add_le_add_right hg 1) hg9
    clear hP hD hS hg hP9 hD9 hg9
    have hP : va_P G.1 vwCl (wRR G ad o sg) H := hP1
    have hD : va_D A (wRR G ad o sg) := hD1
    have hS : va_S A s.heap H locs := hS1
    have hg : s.heap.size + 25 ≤ H.size := hg8
    clear hP1 hD1 hS1 hg8
    refine lv_ldc hx hb hown kc42 dL_refuses_384 ?_
    refine lv_icmp_ne (tgt := 477) hx hb dL_refuses_386 (by decide) (fun h => absurd rfl h) (fun _ => ?_)
    refine lv_aload_n hx hb dL_refuses_389 rfl (lv_at hl 3 rfl) ?_
    refine lv_iload_n hx hb dL_refuses_390 rfl (lv_at hl 1 rfl) ?_
    have hP9 := hP
    have hD9 := hD
    rw [← List.append_nil (wRR G ad o sg)] at hP9 hD9
    refine ckS [] (wRR G ad o sg) [] (wRR G ad o sg) (As := [.ref (ad o), .int nn]) (rest := []) CF (k1_L_prioritySize l hl0 G ad o sg nn hn2) (vx_cwSW 2 hts gL_refuses_L_prioritySize rfl rfl rfl (by decide +kernel) ⟨Nat.le_of_ble_eq_true rfl, Nat.le_of_ble_eq_true rfl⟩) hP9 hD9 hS hA hY hZ (fst_RR _ _ _ _ _) rfl hl.1 rfl (lv_room (Nat.le_of_ble_eq_true rfl)) dL_refuses_391 ⟨Nat.le_of_ble_eq_true rfl, Nat.le_of_ble_eq_true rfl⟩ (fun H locs hP1 hD1 hS1 hg9 => ?_)
    rw [List.append_nil] at hP1 hD1
    have hg8 : s.heap.size + 26 ≤ H.size := Nat.le_trans (Nat.add_le_add_right hg 1) hg9
    clear hP hD hS hg hP9 hD9 hg9
    have hP : va_P G.1 vwCl (wRR G ad o sg) H := hP1
    have hD : va_D A (wRR G ad o sg) := hD1
    have hS : va_S A s.heap H locs := hS1
    have hg : s.heap.size + 26 ≤ H.size := hg8
    clear hP1 hD1 hS1 hg8
    refine lv_ldc hx hb hown kc15 dL_refuses_394 ?_
    refine lv_icmp_ne (tgt := 477) hx hb dL_refuses_396 (by decide) (fun h => absurd rfl h) (fun _ => ?_)
    refine lv_aload_n hx hb dL_refuses_399 rfl (lv_at hl 3 rfl) ?_
    refine lv_iload_n hx hb dL_refuses_400 rfl (lv_at hl 1 rfl) ?_
    refine lv_iload hx hb dL_refuses_401 (lv_at hl 2 rfl) ?_
    have hP9 := hP
    have hD9 := hD
    rw [← List.append_nil (wRR G ad o sg)] at hP9 hD9
    refine ckS [] (wRR G ad o sg) [] (wRR G ad o sg) (As := [.ref (ad o), .int nn, .int oo]) (rest := []) CF (k1_L_priorityItem l hl0 G ad o sg nn oo hn2) (vx_cwSW 3 hts gL_refuses_L_priorityItem rfl rfl rfl (by decide +kernel) ⟨Nat.le_of_ble_eq_true rfl, Nat.le_of_ble_eq_true rfl⟩) hP9 hD9 hS hA hY hZ (fst_RR _ _ _ _ _) rfl hl.1 rfl (lv_room (Nat.le_of_ble_eq_true rfl)) dL_refuses_403 ⟨Nat.le_of_ble_eq_true rfl, Nat.le_of_ble_eq_true rfl⟩ (fun H locs hP1 hD1 hS1 hg9 => ?_)
    rw [List.append_nil] at hP1 hD1
    have hg8 : s.heap.size + 27 ≤ H.size := Nat.le_trans (Nat.add_le_add_right hg 1) hg9
    clear hP hD hS hg hP9 hD9 hg9
    have hP : va_P G.1 vwCl (wRR G ad o sg) H := hP1
    have hD : va_D A (wRR G ad o sg) := hD1
    have hS : va_S A s.heap H locs := hS1
    have hg : s.heap.size + 27 ≤ H.size := hg8
    clear hP1 hD1 hS1 hg8
    refine lv_ldc hx hb hown kc15 dL_refuses_406 ?_
    refine lv_icmp_ne (tgt := 477) hx hb dL_refuses_408 (by decide) (fun h => absurd rfl h) (fun _ => ?_)
    refine lv_aload_n hx hb dL_refuses_411 rfl (lv_at hl 3 rfl) ?_
    refine lv_iconst (v := 2) hx hb dL_refuses_412 (by decide) ?_
    refine lv_iload hx hb dL_refuses_413 (lv_at hl 2 rfl) ?_
    have hP9 := hP
    have hD9 := hD
    rw [← List.append_nil (wRR G ad o sg)] at hP9 hD9
    refine ckS [] (wRR G ad o sg) [] (wRR G ad o (rrMP sg 2)) (As := [.ref (ad o), .int 2, .int oo]) (rest := []) CF (k2_L_priorityItem l hl0 G ad o sg 2 oo (by decide +kernel) p4) (vx_cwSW 3 hts gL_refuses_L_priorityItem rfl rfl rfl (by decide +kernel) ⟨Nat.le_of_ble_eq_true rfl, Nat.le_of_ble_eq_true rfl⟩) hP9 hD9 hS hA hY hZ (fst_RR _ _ _ _ _) rfl hl.1 rfl (lv_room (Nat.le_of_ble_eq_true rfl)) dL_refuses_415 ⟨Nat.le_of_ble_eq_true rfl, Nat.le_of_ble_eq_true rfl⟩ (fun H locs hP1 hD1 hS1 hg9 => ?_)
    rw [List.append_nil] at hP1 hD1
    have hg8 : s.heap.size + 28 ≤ H.size := Nat.le_trans (Nat.add_le_add_right hg 1) hg9
    clear hP hD hS hg hP9 hD9 hg9
    have hP : va_P G.1 vwCl (wRR G ad o (rrMP sg 2)) H := hP1
    have hD : va_D A (wRR G ad o (rrMP sg 2)) := hD1
    have hS : va_S A s.heap H locs := hS1
    have hg : s.heap.size + 28 ≤ H.size := hg8
    clear hP1 hD1 hS1 hg8
    refine lv_ldc hx hb hown kc42 dL_refuses_418 ?_
    refine lv_icmp_ne (tgt := 477) hx hb dL_refuses_420 (by decide) (fun h => absurd rfl h) (fun _ => ?_)
    refine lv_aload_n hx hb dL_refuses_423 rfl (lv_at hl 3 rfl) ?_
    refine lv_iconst (v := 0) hx hb dL_refuses_424 (by decide) ?_
    refine lv_iload hx hb dL_refuses_425 (lv_at hl 2 rfl) ?_
    have hP9 := hP
    have hD9 := hD
    rw [← List.append_nil (wRR G ad o (rrMP sg 2))] at hP9 hD9
    refine ckS [] (wRR G ad o (rrMP sg 2)) [] (wRR G ad o (rrMP (rrMP sg 2) 0)) (As := [.ref (ad o), .int 0, .int oo]) (rest := []) CF (k2_L_estimated l hl0 G ad o (rrMP sg 2) 0 oo (by decide +kernel) p5) (vx_cwSW 3 hts gL_refuses_L_estimated rfl rfl rfl (by decide +kernel) ⟨Nat.le_of_ble_eq_true rfl, Nat.le_of_ble_eq_true rfl⟩) hP9 hD9 hS hA hY hZ (fst_RR _ _ _ _ _) rfl hl.1 rfl (lv_room (Nat.le_of_ble_eq_true rfl)) dL_refuses_427 ⟨Nat.le_of_ble_eq_true rfl, Nat.le_of_ble_eq_true rfl⟩ (fun H locs hP1 hD1 hS1 hg9 => ?_)
    rw [List.append_nil] at hP1 hD1
    have hg8 : s.heap.size + 29 ≤ H.size := Nat.le_trans (Nat.add_le_add_right hg 1) hg9
    clear hP hD hS hg hP9 hD9 hg9
    have hP : va_P G.1 vwCl (wRR G ad o (rrMP (rrMP sg 2) 0)) H := hP1
    have hD : va_D A (wRR G ad o (rrMP (rrMP sg 2) 0)) := hD1
    have hS : va_S A s.heap H locs := hS1
    have hg : s.heap.size + 29 ≤ H.size := hg8
    clear hP1 hD1 hS1 hg8
    refine lv_ldc2 hx hb hown kc65 dL_refuses_430 ?_
    refine W.lcmp hx hb dL_refuses_433 ?_
    refine lv_if_ne (tgt := 477) hx hb dL_refuses_434 (by decide) (fun h => absurd (by decide +kernel) h) (fun _ => ?_)
    refine lv_aload_n hx hb dL_refuses_437 rfl (lv_at hl 3 rfl) ?_
    refine lv_iload_n hx hb dL_refuses_438 rfl (lv_at hl 1 rfl) ?_
    have hP9 := hP
    have hD9 := hD
    rw [← List.append_nil (wRR G ad o (rrMP (rrMP sg 2) 0))] at hP9 hD9
    refine ckS [] (wRR G ad o (rrMP (rrMP sg 2) 0)) [] (wRR G ad o (rrMP (rrMP sg 2) 0)) (As := [.ref (ad o), .int nn]) (rest := []) CF (k1_L_threshold l hl0 G ad o (rrMP (rrMP sg 2) 0) nn hn2) (vx_cwSW 2 hts gL_refuses_L_threshold rfl rfl rfl (by decide +kernel) ⟨Nat.le_of_ble_eq_true rfl, Nat.le_of_ble_eq_true rfl⟩) hP9 hD9 hS hA hY hZ (fst_RR _ _ _ _ _) rfl hl.1 rfl (lv_room (Nat.le_of_ble_eq_true rfl)) dL_refuses_439 ⟨Nat.le_of_ble_eq_true rfl, Nat.le_of_ble_eq_true rfl⟩ (fun H locs hP1 hD1 hS1 hg9 => ?_)
    rw [List.append_nil] at hP1 hD1
    have hg8 : s.heap.size + 30 ≤ H.size := Nat.le_trans (Nat.add_le_add_right hg 1) hg9
    clear hP hD hS hg hP9 hD9 hg9
    have hP : va_P G.1 vwCl (wRR G ad o (rrMP (rrMP sg 2) 0)) H := hP1
    have hD : va_D A (wRR G ad o (rrMP (rrMP sg 2) 0)) := hD1
    have hS : va_S A s.heap H locs := hS1
    have hg : s.heap.size + 30 ≤ H.size := hg8
    clear hP1 hD1 hS1 hg8
    refine lv_ldc2 hx hb hown kc63 dL_refuses_442 ?_
    refine W.lcmp hx hb dL_refuses_445 ?_
    refine lv_if_ne (tgt := 477) hx hb dL_refuses_446 (by decide) (fun h => absurd (by decide +kernel) h) (fun _ => ?_)
    refine lv_aload_n hx hb dL_refuses_449 rfl (lv_at hl 3 rfl) ?_
    refine lv_iconst (v := 1) hx hb dL_refuses_450 (by decide) ?_
    refine lv_iconst (v := 4) hx hb dL_refuses_451 (by decide) ?_
    have hP9 := hP
    have hD9 := hD
    rw [← List.append_nil (wRR G ad o (rrMP (rrMP sg 2) 0))] at hP9 hD9
    refine ckS [] (wRR G ad o (rrMP (rrMP sg 2) 0)) [] (wRR G ad o (rrMP (rrMP sg 2) 0)) (As := [.ref (ad o), .int 1, .int 4]) (rest := []) CF (k1_L_estimate l hl0 G ad o (rrMP (rrMP sg 2) 0) 1 4 (by decide +kernel)) (vx_cwSW 3 hts gL_refuses_L_estimate rfl rfl rfl (by decide +kernel) ⟨Nat.le_of_ble_eq_true rfl, Nat.le_of_ble_eq_true rfl⟩) hP9 hD9 hS hA hY hZ (fst_RR _ _ _ _ _) rfl hl.1 rfl (lv_room (Nat.le_of_ble_eq_true rfl)) dL_refuses_452 ⟨Nat.le_of_ble_eq_true rfl, Nat.le_of_ble_eq_true rfl⟩ (fun H locs hP1 hD1 hS1 hg9 => ?_)
    rw [List.append_nil] at hP1 hD1
    have hg8 : s.heap.size + 31 ≤ H.size := Nat.le_trans (Nat.add_le_add_right hg 1) hg9
    clear hP hD hS hg hP9 hD9 hg9
    have hP : va_P G.1 vwCl (wRR G ad o (rrMP (rrMP sg 2) 0)) H := hP1
    have hD : va_D A (wRR G ad o (rrMP (rrMP sg 2) 0)) := hD1
    have hS : va_S A s.heap H locs := hS1
    have hg : s.heap.size + 31 ≤ H.size := hg8
    clear hP1 hD1 hS1 hg8
    refine lv_ldc2 hx hb hown kc63 dL_refuses_455 ?_
    refine W.lcmp hx hb dL_refuses_458 ?_
    refine lv_if_ne (tgt := 477) hx hb dL_refuses_459 (by decide) (fun h => absurd (by decide +kernel) h) (fun _ => ?_)
    refine lv_aload_n hx hb dL_refuses_462 rfl (lv_at hl 3 rfl) ?_
    refine lv_iload_n hx hb dL_refuses_463 rfl (lv_at hl 1 rfl) ?_
    refine lv_iconst (v := 0) hx hb dL_refuses_464 (by decide) ?_
    have hP9 := hP
    have hD9 := hD
    rw [← List.append_nil (wRR G ad o (rrMP (rrMP sg 2) 0))] at hP9 hD9
    refine ckS [] (wRR G ad o (rrMP (rrMP sg 2) 0)) [] (wRR G ad o (rrMP (rrMP sg 2) 0)) (As := [.ref (ad o), .int nn, .int 0]) (rest := []) CF (k1_L_sampled l hl0 G ad o (rrMP (rrMP sg 2) 0) nn 0 (fun h => hn2 h.1)) (vx_cwSW 3 hts gL_refuses_L_sampled rfl rfl rfl (by decide +kernel) ⟨Nat.le_of_ble_eq_true rfl, Nat.le_of_ble_eq_true rfl⟩) hP9 hD9 hS hA hY hZ (fst_RR _ _ _ _ _) rfl hl.1 rfl (lv_room (Nat.le_of_ble_eq_true rfl)) dL_refuses_465 ⟨Nat.le_of_ble_eq_true rfl, Nat.le_of_ble_eq_true rfl⟩ (fun H locs hP1 hD1 hS1 hg9 => ?_)
    rw [List.append_nil] at hP1 hD1
    have hg8 : s.heap.size + 32 ≤ H.size := Nat.le_trans (Nat.add_le_add_right hg 1) hg9
    clear hP hD hS hg hP9 hD9 hg9
    have hP : va_P G.1 vwCl (wRR G ad o (rrMP (rrMP sg 2) 0)) H := hP1
    have hD : va_D A (wRR G ad o (rrMP (rrMP sg 2) 0)) := hD1
    have hS : va_S A s.heap H locs := hS1
    have hg : s.heap.size + 32 ≤ H.size := hg8
    clear hP1 hD1 hS1 hg8
    refine lv_ldc hx hb hown kc15 dL_refuses_468 ?_
    refine lv_icmp_ne (tgt := 477) hx hb dL_refuses_470 (by decide) (fun h => absurd rfl h) (fun _ => ?_)
    refine lv_iconst (v := 1) hx hb dL_refuses_473 (by decide) ?_
    refine lv_goto (tgt := 478) hx hb dL_refuses_474 (by decide) ?_
    refine lv_istore (lv' := [(5, .int 1), (3, .int nn), (4, .int oo), (0, .ref (ad o)), (1, .int kk), (2, .int x)]) hx hb dL_refuses_478 hl (by decide) rfl (fun ls hl => ?_)
    exact seg3 _ _ _ hP hD hS hg hl
  have seg1 : ∀ (H : Heap) (locs : List Loc) (ls : Array Slot), va_P G.1 vwCl (wRR G ad o sg) H → va_D A (wRR G ad o sg) → va_S A s.heap H locs → s.heap.size + 0 ≤ H.size → lv_has ls 6 [(3, .int nn), (4, .int oo), (0, .ref (ad o)), (1, .int kk), (2, .int x)] → W p l e (headSpec wsL_refuses { frames := 9, cells := 41, slots := 246, locals := 200 }).room s m ([.ref (ad o), .int kk, .int x] : List Value).toArray below meth c H locs 0 0 (MQ below (GQ 41 (some (.int 1)) G (wRR G ad o (rrMD (rrMD (rrMP (rrMP sg 2) 0) 2) 1)) A) ([.ref (ad o), .int kk, .int x] : List Value).toArray s 41 246 A) (F0 m 45 ls []) := by
    intro H locs ls hP hD hS hg hl
    refine lv_aload_n hx hb dL_refuses_45 rfl (lv_at hl 2 rfl) ?_
    refine lv_iconst (v := 1) hx hb dL_refuses_46 (by decide) ?_
    refine lv_bipush (v := 8) hx hb dL_refuses_47 (by decide) ?_
    have hP9 := hP
    have hD9 := hD
    rw [← List.append_nil (wRR G ad o sg)] at hP9 hD9
    refine ckS [] (wRR G ad o sg) [] (wRR G ad o sg) (As := [.ref (ad o), .int 1, .int 8]) (rest := []) CF (k1_L_begun l hl0 G ad o sg 1 8 (by decide +kernel)) (vx_cwSW 3 hts gL_refuses_L_begun rfl rfl rfl (by decide +kernel) ⟨Nat.le_of_ble_eq_true rfl, Nat.le_of_ble_eq_true rfl⟩) hP9 hD9 hS hA hY hZ (fst_RR _ _ _ _ _) rfl hl.1 rfl (lv_room (Nat.le_of_ble_eq_true rfl)) dL_refuses_49 ⟨Nat.le_of_ble_eq_true rfl, Nat.le_of_ble_eq_true rfl⟩ (fun H locs hP1 hD1 hS1 hg9 => ?_)
    rw [List.append_nil] at hP1 hD1
    have hg8 : s.heap.size + 1 ≤ H.size := Nat.le_trans (Nat.add_le_add_right hg 1) hg9
    clear hP hD hS hg hP9 hD9 hg9
    have hP : va_P G.1 vwCl (wRR G ad o sg) H := hP1
    have hD : va_D A (wRR G ad o sg) := hD1
    have hS : va_S A s.heap H locs := hS1
    have hg : s.heap.size + 1 ≤ H.size := hg8
    clear hP1 hD1 hS1 hg8
    refine lv_ldc hx hb hown kc15 dL_refuses_52 ?_
    refine lv_icmp_ne (tgt := 256) hx hb dL_refuses_54 (by decide) (fun h => absurd rfl h) (fun _ => ?_)
    refine lv_aload_n hx hb dL_refuses_57 rfl (lv_at hl 2 rfl) ?_
    refine lv_bipush (v := 17) hx hb dL_refuses_58 (by decide) ?_
    refine lv_iconst (v := 1) hx hb dL_refuses_60 (by decide) ?_
    have hP9 := hP
    have hD9 := hD
    rw [← List.append_nil (wRR G ad o sg)] at hP9 hD9
    refine ckS [] (wRR G ad o sg) [] (wRR G ad o sg) (As := [.ref (ad o), .int 17, .int 1]) (rest := []) CF (k1_L_begun l hl0 G ad o sg 17 1 (by decide +kernel)) (vx_cwSW 3 hts gL_refuses_L_begun rfl rfl rfl (by decide +kernel) ⟨Nat.le_of_ble_eq_true rfl, Nat.le_of_ble_eq_true rfl⟩) hP9 hD9 hS hA hY hZ (fst_RR _ _ _ _ _) rfl hl.1 rfl (lv_room (Nat.le_of_ble_eq_true rfl)) dL_refuses_61 ⟨Nat.le_of_ble_eq_true rfl, Nat.le_of_ble_eq_true rfl⟩ (fun H locs hP1 hD1 hS1 hg9 => ?_)
    rw [List.append_nil] at hP1 hD1
    have hg8 : s.heap.size + 2 ≤ H.size := Nat.le_trans (Nat.add_le_add_right hg 1) hg9
    clear hP hD hS hg hP9 hD9 hg9
    have hP : va_P G.1 vwCl (wRR G ad o sg) H := hP1
    have hD : va_D A (wRR G ad o sg) := hD1
    have hS : va_S A s.heap H locs := hS1
    have hg : s.heap.size + 2 ≤ H.size := hg8
    clear hP1 hD1 hS1 hg8
    refine lv_ldc hx hb hown kc15 dL_refuses_64 ?_
    refine lv_icmp_ne (tgt := 256) hx hb dL_refuses_66 (by decide) (fun h => absurd rfl h) (fun _ => ?_)
    refine lv_aload_n hx hb dL_refuses_69 rfl (lv_at hl 2 rfl) ?_
    refine lv_iconst (v := 2) hx hb dL_refuses_70 (by decide) ?_
    refine lv_iconst (v := 0) hx hb dL_refuses_71 (by decide) ?_
    have hP9 := hP
    have hD9 := hD
    rw [← List.append_nil (wRR G ad o sg)] at hP9 hD9
    refine ckS [] (wRR G ad o sg) [] (wRR G ad o sg) (As := [.ref (ad o), .int 2, .int 0]) (rest := []) CF (k1_L_begun l hl0 G ad o sg 2 0 (by decide +kernel)) (vx_cwSW 3 hts gL_refuses_L_begun rfl rfl rfl (by decide +kernel) ⟨Nat.le_of_ble_eq_true rfl, Nat.le_of_ble_eq_true rfl⟩) hP9 hD9 hS hA hY hZ (fst_RR _ _ _ _ _) rfl hl.1 rfl (lv_room (Nat.le_of_ble_eq_true rfl)) dL_refuses_72 ⟨Nat.le_of_ble_eq_true rfl, Nat.le_of_ble_eq_true rfl⟩ (fun H locs hP1 hD1 hS1 hg9 => ?_)
    rw [List.append_nil] at hP1 hD1
    have hg8 : s.heap.size + 3 ≤ H.size := Nat.le_trans (Nat.add_le_add_right hg 1) hg9
    clear hP hD hS hg hP9 hD9 hg9
    have hP : va_P G.1 vwCl (wRR G ad o sg) H := hP1
    have hD : va_D A (wRR G ad o sg) := hD1
    have hS : va_S A s.heap H locs := hS1
    have hg : s.heap.size + 3 ≤ H.size := hg8
    clear hP1 hD1 hS1 hg8
    refine lv_ldc hx hb hown kc15 dL_refuses_75 ?_
    refine lv_icmp_ne (tgt := 256) hx hb dL_refuses_77 (by decide) (fun h => absurd rfl h) (fun _ => ?_)
    refine lv_aload_n hx hb dL_refuses_80 rfl (lv_at hl 2 rfl) ?_
    refine lv_iconst (v := 2) hx hb dL_refuses_81 (by decide) ?_
    refine lv_bipush (v := 65) hx hb dL_refuses_82 (by decide) ?_
    have hP9 := hP
    have hD9 := hD
    rw [← List.append_nil (wRR G ad o sg)] at hP9 hD9
    refine ckS [] (wRR G ad o sg) [] (wRR G ad o sg) (As := [.ref (ad o), .int 2, .int 65]) (rest := []) CF (k1_L_begun l hl0 G ad o sg 2 65 (by decide +kernel)) (vx_cwSW 3 hts gL_refuses_L_begun rfl rfl rfl (by decide +kernel) ⟨Nat.le_of_ble_eq_true rfl, Nat.le_of_ble_eq_true rfl⟩) hP9 hD9 hS hA hY hZ (fst_RR _ _ _ _ _) rfl hl.1 rfl (lv_room (Nat.le_of_ble_eq_true rfl)) dL_refuses_84 ⟨Nat.le_of_ble_eq_true rfl, Nat.le_of_ble_eq_true rfl⟩ (fun H locs hP1 hD1 hS1 hg9 => ?_)
    rw [List.append_nil] at hP1 hD1
    have hg8 : s.heap.size + 4 ≤ H.size := Nat.le_trans (Nat.add_le_add_right hg 1) hg9
    clear hP hD hS hg hP9 hD9 hg9
    have hP : va_P G.1 vwCl (wRR G ad o sg) H := hP1
    have hD : va_D A (wRR G ad o sg) := hD1
    have hS : va_S A s.heap H locs := hS1
    have hg : s.heap.size + 4 ≤ H.size := hg8
    clear hP1 hD1 hS1 hg8
    refine lv_ldc hx hb hown kc15 dL_refuses_87 ?_
    refine lv_icmp_ne (tgt := 256) hx hb dL_refuses_89 (by decide) (fun h => absurd rfl h) (fun _ => ?_)
    refine lv_aload_n hx hb dL_refuses_92 rfl (lv_at hl 2 rfl) ?_
    refine lv_iconst (v := 2) hx hb dL_refuses_93 (by decide) ?_
    refine lv_iconst (v := 1) hx hb dL_refuses_94 (by decide) ?_
    refine lv_iconst (v := 1) hx hb dL_refuses_95 (by decide) ?_
    refine lv_iconst (v := 0) hx hb dL_refuses_96 (by decide) ?_
    refine lv_iconst (v := 0) hx hb dL_refuses_97 (by decide) ?_
    refine lv_iconst (v := 0) hx hb dL_refuses_98 (by decide) ?_
    have hP9 := hP
    have hD9 := hD
    rw [← List.append_nil (wRR G ad o sg)] at hP9 hD9
    refine ckS [] (wRR G ad o sg) [] (wRR G ad o sg) (As := [.ref (ad o), .int 2, .int 1, .int 1, .int 0, .int 0, .int 0]) (rest := []) CF (k1_L_offered l hl0 G ad o sg 2 1 1 0 0 0 (by decide +kernel)) (vx_cwSW 7 hts gL_refuses_L_offered rfl rfl rfl (by decide +kernel) ⟨Nat.le_of_ble_eq_true rfl, Nat.le_of_ble_eq_true rfl⟩) hP9 hD9 hS hA hY hZ (fst_RR _ _ _ _ _) rfl hl.1 rfl (lv_room (Nat.le_of_ble_eq_true rfl)) dL_refuses_99 ⟨Nat.le_of_ble_eq_true rfl, Nat.le_of_ble_eq_true rfl⟩ (fun H locs hP1 hD1 hS1 hg9 => ?_)
    rw [List.append_nil] at hP1 hD1
    have hg8 : s.heap.size + 5 ≤ H.size := Nat.le_trans (Nat.add_le_add_right hg 1) hg9
    clear hP hD hS hg hP9 hD9 hg9
    have hP : va_P G.1 vwCl (wRR G ad o sg) H := hP1
    have hD : va_D A (wRR G ad o sg) := hD1
    have hS : va_S A s.heap H locs := hS1
    have hg : s.heap.size + 5 ≤ H.size := hg8
    clear hP1 hD1 hS1 hg8
    refine lv_ldc hx hb hown kc15 dL_refuses_102 ?_
    refine lv_icmp_ne (tgt := 256) hx hb dL_refuses_104 (by decide) (fun h => absurd rfl h) (fun _ => ?_)
    refine lv_aload_n hx hb dL_refuses_107 rfl (lv_at hl 2 rfl) ?_
    refine lv_iload_n hx hb dL_refuses_108 rfl (lv_at hl 0 rfl) ?_
    refine lv_iconst (v := 1) hx hb dL_refuses_109 (by decide) ?_
    refine lv_iconst (v := 1) hx hb dL_refuses_110 (by decide) ?_
    refine lv_iconst (v := 0) hx hb dL_refuses_111 (by decide) ?_
    refine lv_iconst (v := 0) hx hb dL_refuses_112 (by decide) ?_
    refine lv_iconst (v := 0) hx hb dL_refuses_113 (by decide) ?_
    have hP9 := hP
    have hD9 := hD
    rw [← List.append_nil (wRR G ad o sg)] at hP9 hD9
    refine ckS [] (wRR G ad o sg) [] (wRR G ad o sg) (As := [.ref (ad o), .int nn, .int 1, .int 1, .int 0, .int 0, .int 0]) (rest := []) CF (k1_L_offered l hl0 G ad o sg nn 1 1 0 0 0 (fun h => hn1 h.1)) (vx_cwSW 7 hts gL_refuses_L_offered rfl rfl rfl (by decide +kernel) ⟨Nat.le_of_ble_eq_true rfl, Nat.le_of_ble_eq_true rfl⟩) hP9 hD9 hS hA hY hZ (fst_RR _ _ _ _ _) rfl hl.1 rfl (lv_room (Nat.le_of_ble_eq_true rfl)) dL_refuses_114 ⟨Nat.le_of_ble_eq_true rfl, Nat.le_of_ble_eq_true rfl⟩ (fun H locs hP1 hD1 hS1 hg9 => ?_)
    rw [List.append_nil] at hP1 hD1
    have hg8 : s.heap.size + 6 ≤ H.size := Nat.le_trans (Nat.add_le_add_right hg 1) hg9
    clear hP hD hS hg hP9 hD9 hg9
    have hP : va_P G.1 vwCl (wRR G ad o sg) H := hP1
    have hD : va_D A (wRR G ad o sg) := hD1
    have hS : va_S A s.heap H locs := hS1
    have hg : s.heap.size + 6 ≤ H.size := hg8
    clear hP1 hD1 hS1 hg8
    refine lv_ldc hx hb hown kc15 dL_refuses_117 ?_
    refine lv_icmp_ne (tgt := 256) hx hb dL_refuses_119 (by decide) (fun h => absurd rfl h) (fun _ => ?_)
    refine lv_aload_n hx hb dL_refuses_122 rfl (lv_at hl 2 rfl) ?_
    refine lv_iconst (v := 0) hx hb dL_refuses_123 (by decide) ?_
    refine lv_iconst (v := -1) hx hb dL_refuses_124 (by decide) ?_
    refine lv_iload_n hx hb dL_refuses_125 rfl (lv_at hl 4 rfl) ?_
    refine lv_isub hx hb dL_refuses_126 ?_
    refine lv_iconst (v := 1) hx hb dL_refuses_127 (by decide) ?_
    refine lv_iconst (v := 0) hx hb dL_refuses_128 (by decide) ?_
    refine lv_iconst (v := 0) hx hb dL_refuses_129 (by decide) ?_
    refine lv_iconst (v := 0) hx hb dL_refuses_130 (by decide) ?_
    have hP9 := hP
    have hD9 := hD
    rw [← List.append_nil (wRR G ad o sg)] at hP9 hD9
    refine ckS [] (wRR G ad o sg) [] (wRR G ad o sg) (As := [.ref (ad o), .int 0, .int (-1 - x), .int 1, .int 0, .int 0, .int 0]) (rest := []) CF (k1_L_offered l hl0 G ad o sg 0 (-1 - x) 1 0 0 0 (fun h => hi h.2.1)) (vx_cwSW 7 hts gL_refuses_L_offered rfl rfl rfl (by decide +kernel) ⟨Nat.le_of_ble_eq_true rfl, Nat.le_of_ble_eq_true rfl⟩) hP9 hD9 hS hA hY hZ (fst_RR _ _ _ _ _) rfl hl.1 rfl (lv_room (Nat.le_of_ble_eq_true rfl)) dL_refuses_131 ⟨Nat.le_of_ble_eq_true rfl, Nat.le_of_ble_eq_true rfl⟩ (fun H locs hP1 hD1 hS1 hg9 => ?_)
    rw [List.append_nil] at hP1 hD1
    have hg8 : s.heap.size + 7 ≤ H.size := Nat.le_trans (Nat.add_le_add_right hg 1) hg9
    clear hP hD hS hg hP9 hD9 hg9
    have hP : va_P G.1 vwCl (wRR G ad o sg) H := hP1
    have hD : va_D A (wRR G ad o sg) := hD1
    have hS : va_S A s.heap H locs := hS1
    have hg : s.heap.size + 7 ≤ H.size := hg8
    clear hP1 hD1 hS1 hg8
    refine lv_ldc hx hb hown kc15 dL_refuses_134 ?_
    refine lv_icmp_ne (tgt := 256) hx hb dL_refuses_136 (by decide) (fun h => absurd rfl h) (fun _ => ?_)
    refine lv_aload_n hx hb dL_refuses_139 rfl (lv_at hl 2 rfl) ?_
    refine lv_iconst (v := 1) hx hb dL_refuses_140 (by decide) ?_
    refine lv_ldc hx hb hown kc113 dL_refuses_141 ?_
    refine lv_iconst (v := 1) hx hb dL_refuses_143 (by decide) ?_
    refine lv_iconst (v := 0) hx hb dL_refuses_144 (by decide) ?_
    refine lv_iconst (v := 0) hx hb dL_refuses_145 (by decide) ?_
    refine lv_iconst (v := 0) hx hb dL_refuses_146 (by decide) ?_
    have hP9 := hP
    have hD9 := hD
    rw [← List.append_nil (wRR G ad o sg)] at hP9 hD9
    refine ckS [] (wRR G ad o sg) [] (wRR G ad o sg) (As := [.ref (ad o), .int 1, .int 1000001, .int 1, .int 0, .int 0, .int 0]) (rest := []) CF (k1_L_offered l hl0 G ad o sg 1 1000001 1 0 0 0 (by decide +kernel)) (vx_cwSW 7 hts gL_refuses_L_offered rfl rfl rfl (by decide +kernel) ⟨Nat.le_of_ble_eq_true rfl, Nat.le_of_ble_eq_true rfl⟩) hP9 hD9 hS hA hY hZ (fst_RR _ _ _ _ _) rfl hl.1 rfl (lv_room (Nat.le_of_ble_eq_true rfl)) dL_refuses_147 ⟨Nat.le_of_ble_eq_true rfl, Nat.le_of_ble_eq_true rfl⟩ (fun H locs hP1 hD1 hS1 hg9 => ?_)
    rw [List.append_nil] at hP1 hD1
    have hg8 : s.heap.size + 8 ≤ H.size := Nat.le_trans (Nat.add_le_add_right hg 1) hg9
    clear hP hD hS hg hP9 hD9 hg9
    have hP : va_P G.1 vwCl (wRR G ad o sg) H := hP1
    have hD : va_D A (wRR G ad o sg) := hD1
    have hS : va_S A s.heap H locs := hS1
    have hg : s.heap.size + 8 ≤ H.size := hg8
    clear hP1 hD1 hS1 hg8
    refine lv_ldc hx hb hown kc15 dL_refuses_150 ?_
    refine lv_icmp_ne (tgt := 256) hx hb dL_refuses_152 (by decide) (fun h => absurd rfl h) (fun _ => ?_)
    refine lv_aload_n hx hb dL_refuses_155 rfl (lv_at hl 2 rfl) ?_
    refine lv_iconst (v := 0) hx hb dL_refuses_156 (by decide) ?_
    refine lv_iconst (v := 1) hx hb dL_refuses_157 (by decide) ?_
    refine lv_iconst (v := 0) hx hb dL_refuses_158 (by decide) ?_
    refine lv_iconst (v := 0) hx hb dL_refuses_159 (by decide) ?_
    refine lv_iconst (v := 0) hx hb dL_refuses_160 (by decide) ?_
    refine lv_iconst (v := 0) hx hb dL_refuses_161 (by decide) ?_
    have hP9 := hP
    have hD9 := hD
    rw [← List.append_nil (wRR G ad o sg)] at hP9 hD9
    refine ckS [] (wRR G ad o sg) [] (wRR G ad o sg) (As := [.ref (ad o), .int 0, .int 1, .int 0, .int 0, .int 0, .int 0]) (rest := []) CF (k1_L_offered l hl0 G ad o sg 0 1 0 0 0 0 (by decide +kernel)) (vx_cwSW 7 hts gL_refuses_L_offered rfl rfl rfl (by decide +kernel) ⟨Nat.le_of_ble_eq_true rfl, Nat.le_of_ble_eq_true rfl⟩) hP9 hD9 hS hA hY hZ (fst_RR _ _ _ _ _) rfl hl.1 rfl (lv_room (Nat.le_of_ble_eq_true rfl)) dL_refuses_162 ⟨Nat.le_of_ble_eq_true rfl, Nat.le_of_ble_eq_true rfl⟩ (fun H locs hP1 hD1 hS1 hg9 => ?_)
    rw [List.append_nil] at hP1 hD1
    have hg8 : s.heap.size + 9 ≤ H.size := Nat.le_trans (Nat.add_le_add_right hg 1) hg9
    clear hP hD hS hg hP9 hD9 hg9
    have hP : va_P G.1 vwCl (wRR G ad o sg) H := hP1
    have hD : va_D A (wRR G ad o sg) := hD1
    have hS : va_S A s.heap H locs := hS1
    have hg : s.heap.size + 9 ≤ H.size := hg8
    clear hP1 hD1 hS1 hg8
    refine lv_ldc hx hb hown kc15 dL_refuses_165 ?_
    refine lv_icmp_ne (tgt := 256) hx hb dL_refuses_167 (by decide) (fun h => absurd rfl h) (fun _ => ?_)
    refine lv_aload_n hx hb dL_refuses_170 rfl (lv_at hl 2 rfl) ?_
    refine lv_iconst (v := 0) hx hb dL_refuses_171 (by decide) ?_
    refine lv_iconst (v := 1) hx hb dL_refuses_172 (by decide) ?_
    refine lv_ldc hx hb hown kc113 dL_refuses_173 ?_
    refine lv_iload_n hx hb dL_refuses_175 rfl (lv_at hl 4 rfl) ?_
    refine lv_iadd hx hb dL_refuses_176 ?_
    refine lv_iconst (v := 0) hx hb dL_refuses_177 (by decide) ?_
    refine lv_iconst (v := 0) hx hb dL_refuses_178 (by decide) ?_
    refine lv_iconst (v := 0) hx hb dL_refuses_179 (by decide) ?_
    have hP9 := hP
    have hD9 := hD
    rw [← List.append_nil (wRR G ad o sg)] at hP9 hD9
    refine ckS [] (wRR G ad o sg) [] (wRR G ad o sg) (As := [.ref (ad o), .int 0, .int 1, .int (1000001 + x), .int 0, .int 0, .int 0]) (rest := []) CF (k1_L_offered l hl0 G ad o sg 0 1 (1000001 + x) 0 0 0 (fun h => hw h.2.2.1)) (vx_cwSW 7 hts gL_refuses_L_offered rfl rfl rfl (by decide +kernel) ⟨Nat.le_of_ble_eq_true rfl, Nat.le_of_ble_eq_true rfl⟩) hP9 hD9 hS hA hY hZ (fst_RR _ _ _ _ _) rfl hl.1 rfl (lv_room (Nat.le_of_ble_eq_true rfl)) dL_refuses_180 ⟨Nat.le_of_ble_eq_true rfl, Nat.le_of_ble_eq_true rfl⟩ (fun H locs hP1 hD1 hS1 hg9 => ?_)
    rw [List.append_nil] at hP1 hD1
    have hg8 : s.heap.size + 10 ≤ H.size := Nat.le_trans (Nat.add_le_add_right hg 1) hg9
    clear hP hD hS hg hP9 hD9 hg9
    have hP : va_P G.1 vwCl (wRR G ad o sg) H := hP1
    have hD : va_D A (wRR G ad o sg) := hD1
    have hS : va_S A s.heap H locs := hS1
    have hg : s.heap.size + 10 ≤ H.size := hg8
    clear hP1 hD1 hS1 hg8
    refine lv_ldc hx hb hown kc15 dL_refuses_183 ?_
    refine lv_icmp_ne (tgt := 256) hx hb dL_refuses_185 (by decide) (fun h => absurd rfl h) (fun _ => ?_)
    refine lv_aload_n hx hb dL_refuses_188 rfl (lv_at hl 2 rfl) ?_
    refine lv_iconst (v := 1) hx hb dL_refuses_189 (by decide) ?_
    refine lv_iconst (v := 1) hx hb dL_refuses_190 (by decide) ?_
    refine lv_iconst (v := 1) hx hb dL_refuses_191 (by decide) ?_
    refine lv_iconst (v := 4) hx hb dL_refuses_192 (by decide) ?_
    refine lv_iload_n hx hb dL_refuses_193 rfl (lv_at hl 4 rfl) ?_
    refine lv_iadd hx hb dL_refuses_194 ?_
    refine lv_iconst (v := 0) hx hb dL_refuses_195 (by decide) ?_
    refine lv_iconst (v := 0) hx hb dL_refuses_196 (by decide) ?_
    have hP9 := hP
    have hD9 := hD
    rw [← List.append_nil (wRR G ad o sg)] at hP9 hD9
    refine ckS [] (wRR G ad o sg) [] (wRR G ad o sg) (As := [.ref (ad o), .int 1, .int 1, .int 1, .int (4 + x), .int 0, .int 0]) (rest := []) CF (k1_L_offered l hl0 G ad o sg 1 1 1 (4 + x) 0 0 (fun h => hq h.2.2.2.1)) (vx_cwSW 7 hts gL_refuses_L_offered rfl rfl rfl (by decide +kernel) ⟨Nat.le_of_ble_eq_true rfl, Nat.le_of_ble_eq_true rfl⟩) hP9 hD9 hS hA hY hZ (fst_RR _ _ _ _ _) rfl hl.1 rfl (lv_room (Nat.le_of_ble_eq_true rfl)) dL_refuses_197 ⟨Nat.le_of_ble_eq_true rfl, Nat.le_of_ble_eq_true rfl⟩ (fun H locs hP1 hD1 hS1 hg9 => ?_)
    rw [List.append_nil] at hP1 hD1
    have hg8 : s.heap.size + 11 ≤ H.size := Nat.le_trans (Nat.add_le_add_right hg 1) hg9
    clear hP hD hS hg hP9 hD9 hg9
    have hP : va_P G.1 vwCl (wRR G ad o sg) H := hP1
    have hD : va_D A (wRR G ad o sg) := hD1
    have hS : va_S A s.heap H locs := hS1
    have hg : s.heap.size + 11 ≤ H.size := hg8
    clear hP1 hD1 hS1 hg8
    refine lv_ldc hx hb hown kc15 dL_refuses_200 ?_
    refine lv_icmp_ne (tgt := 256) hx hb dL_refuses_202 (by decide) (fun h => absurd rfl h) (fun _ => ?_)
    refine lv_aload_n hx hb dL_refuses_205 rfl (lv_at hl 2 rfl) ?_
    refine lv_iconst (v := 1) hx hb dL_refuses_206 (by decide) ?_
    refine lv_iconst (v := 1) hx hb dL_refuses_207 (by decide) ?_
    refine lv_iconst (v := 1) hx hb dL_refuses_208 (by decide) ?_
    refine lv_iconst (v := -1) hx hb dL_refuses_209 (by decide) ?_
    refine lv_iconst (v := 0) hx hb dL_refuses_210 (by decide) ?_
    refine lv_iconst (v := 0) hx hb dL_refuses_211 (by decide) ?_
    have hP9 := hP
    have hD9 := hD
    rw [← List.append_nil (wRR G ad o sg)] at hP9 hD9
    refine ckS [] (wRR G ad o sg) [] (wRR G ad o sg) (As := [.ref (ad o), .int 1, .int 1, .int 1, .int (-1), .int 0, .int 0]) (rest := []) CF (k1_L_offered l hl0 G ad o sg 1 1 1 (-1) 0 0 (by decide +kernel)) (vx_cwSW 7 hts gL_refuses_L_offered rfl rfl rfl (by decide +kernel) ⟨Nat.le_of_ble_eq_true rfl, Nat.le_of_ble_eq_true rfl⟩) hP9 hD9 hS hA hY hZ (fst_RR _ _ _ _ _) rfl hl.1 rfl (lv_room (Nat.le_of_ble_eq_true rfl)) dL_refuses_212 ⟨Nat.le_of_ble_eq_true rfl, Nat.le_of_ble_eq_true rfl⟩ (fun H locs hP1 hD1 hS1 hg9 => ?_)
    rw [List.append_nil] at hP1 hD1
    have hg8 : s.heap.size + 12 ≤ H.size := Nat.le_trans (Nat.add_le_add_right hg 1) hg9
    clear hP hD hS hg hP9 hD9 hg9
    have hP : va_P G.1 vwCl (wRR G ad o sg) H := hP1
    have hD : va_D A (wRR G ad o sg) := hD1
    have hS : va_S A s.heap H locs := hS1
    have hg : s.heap.size + 12 ≤ H.size := hg8
    clear hP1 hD1 hS1 hg8
    refine lv_ldc hx hb hown kc15 dL_refuses_215 ?_
    refine lv_icmp_ne (tgt := 256) hx hb dL_refuses_217 (by decide) (fun h => absurd rfl h) (fun _ => ?_)
    refine lv_aload_n hx hb dL_refuses_220 rfl (lv_at hl 2 rfl) ?_
    refine lv_iconst (v := 0) hx hb dL_refuses_221 (by decide) ?_
    refine lv_iconst (v := 1) hx hb dL_refuses_222 (by decide) ?_
    refine lv_iconst (v := 1) hx hb dL_refuses_223 (by decide) ?_
    refine lv_iconst (v := 0) hx hb dL_refuses_224 (by decide) ?_
    refine lv_iconst (v := -1) hx hb dL_refuses_225 (by decide) ?_
    refine lv_iload_n hx hb dL_refuses_226 rfl (lv_at hl 4 rfl) ?_
    refine lv_isub hx hb dL_refuses_227 ?_
    refine lv_iconst (v := 0) hx hb dL_refuses_228 (by decide) ?_
    have hP9 := hP
    have hD9 := hD
    rw [← List.append_nil (wRR G ad o sg)] at hP9 hD9
    refine ckS [] (wRR G ad o sg) [] (wRR G ad o sg) (As := [.ref (ad o), .int 0, .int 1, .int 1, .int 0, .int (-1 - x), .int 0]) (rest := []) CF (k1_L_offered l hl0 G ad o sg 0 1 1 0 (-1 - x) 0 (fun h => hf h.2.2.2.2.1)) (vx_cwSW 7 hts gL_refuses_L_offered rfl rfl rfl (by decide +kernel) ⟨Nat.le_of_ble_eq_true rfl, Nat.le_of_ble_eq_true rfl⟩) hP9 hD9 hS hA hY hZ (fst_RR _ _ _ _ _) rfl hl.1 rfl (lv_room (Nat.le_of_ble_eq_true rfl)) dL_refuses_229 ⟨Nat.le_of_ble_eq_true rfl, Nat.le_of_ble_eq_true rfl⟩ (fun H locs hP1 hD1 hS1 hg9 => ?_)
    rw [List.append_nil] at hP1 hD1
    have hg8 : s.heap.size + 13 ≤ H.size := Nat.le_trans (Nat.add_le_add_right hg 1) hg9
    clear hP hD hS hg hP9 hD9 hg9
    have hP : va_P G.1 vwCl (wRR G ad o sg) H := hP1
    have hD : va_D A (wRR G ad o sg) := hD1
    have hS : va_S A s.heap H locs := hS1
    have hg : s.heap.size + 13 ≤ H.size := hg8
    clear hP1 hD1 hS1 hg8
    refine lv_ldc hx hb hown kc15 dL_refuses_232 ?_
    refine lv_icmp_ne (tgt := 256) hx hb dL_refuses_234 (by decide) (fun h => absurd rfl h) (fun _ => ?_)
    refine lv_aload_n hx hb dL_refuses_237 rfl (lv_at hl 2 rfl) ?_
    refine lv_iconst (v := 0) hx hb dL_refuses_238 (by decide) ?_
    refine lv_iconst (v := 1) hx hb dL_refuses_239 (by decide) ?_
    refine lv_iconst (v := 1) hx hb dL_refuses_240 (by decide) ?_
    refine lv_iconst (v := 0) hx hb dL_refuses_241 (by decide) ?_
    refine lv_iconst (v := 0) hx hb dL_refuses_242 (by decide) ?_
    refine lv_iconst (v := -1) hx hb dL_refuses_243 (by decide) ?_
    have hP9 := hP
    have hD9 := hD
    rw [← List.append_nil (wRR G ad o sg)] at hP9 hD9
    refine ckS [] (wRR G ad o sg) [] (wRR G ad o sg) (As := [.ref (ad o), .int 0, .int 1, .int 1, .int 0, .int 0, .int (-1)]) (rest := []) CF (k1_L_offered l hl0 G ad o sg 0 1 1 0 0 (-1) (by decide +kernel)) (vx_cwSW 7 hts gL_refuses_L_offered rfl rfl rfl (by decide +kernel) ⟨Nat.le_of_ble_eq_true rfl, Nat.le_of_ble_eq_true rfl⟩) hP9 hD9 hS hA hY hZ (fst_RR _ _ _ _ _) rfl hl.1 rfl (lv_room (Nat.le_of_ble_eq_true rfl)) dL_refuses_244 ⟨Nat.le_of_ble_eq_true rfl, Nat.le_of_ble_eq_true rfl⟩ (fun H locs hP1 hD1 hS1 hg9 => ?_)
    rw [List.append_nil] at hP1 hD1
    have hg8 : s.heap.size + 14 ≤ H.size := Nat.le_trans (Nat.add_le_add_right hg 1) hg9
    clear hP hD hS hg hP9 hD9 hg9
    have hP : va_P G.1 vwCl (wRR G ad o sg) H := hP1
    have hD : va_D A (wRR G ad o sg) := hD1
    have hS : va_S A s.heap H locs := hS1
    have hg : s.heap.size + 14 ≤ H.size := hg8
    clear hP1 hD1 hS1 hg8
    refine lv_ldc hx hb hown kc15 dL_refuses_247 ?_
    refine lv_icmp_ne (tgt := 256) hx hb dL_refuses_249 (by decide) (fun h => absurd rfl h) (fun _ => ?_)
    refine lv_iconst (v := 1) hx hb dL_refuses_252 (by decide) ?_
    refine lv_goto (tgt := 257) hx hb dL_refuses_253 (by decide) ?_
    refine lv_istore (lv' := [(5, .int 1), (3, .int nn), (4, .int oo), (0, .ref (ad o)), (1, .int kk), (2, .int x)]) hx hb dL_refuses_257 hl (by decide) rfl (fun ls hl => ?_)
    exact seg2 _ _ _ hP hD hS hg hl
  have hl := lv_entry ([.ref (ad o), .int kk, .int x]) (n := 6) (Nat.le_of_ble_eq_true rfl)
  rw [lg_entry_eq]
  generalize (lg_sl ([.ref (ad o), .int kk, .int x]) ++ List.replicate (6 - (lg_sl ([.ref (ad o), .int kk, .int x])).length) Slot.unset).toArray = ls at hl ⊢
  have hl : lv_has ls 6 [(0, .ref (ad o)), (1, .int kk), (2, .int x)] := hl
  rcases hnn with ⟨h0, h1, h2⟩ | ⟨h0, h1, h2⟩
  · refine lv_iload_n hx hb dL_refuses_0 rfl (lv_at hl 2 rfl) ?_
    refine lv_iconst (v := 2) hx hb dL_refuses_1 (by decide) ?_
    refine lv_irem hx hb dL_refuses_2 (by decide) ?_
    refine lv_if_ne (tgt := 15) hx hb dL_refuses_3 (by decide) (fun h => absurd h0 h) (fun _ => ?_)
    refine lv_iconst (v := -1) hx hb dL_refuses_6 (by decide) ?_
    refine lv_iload_n hx hb dL_refuses_7 rfl (lv_at hl 2 rfl) ?_
    refine lv_bipush (v := 60) hx hb dL_refuses_8 (by decide) ?_
    refine lv_irem hx hb dL_refuses_10 (by decide) ?_
    refine lv_isub hx hb dL_refuses_11 ?_
    refine lv_goto (tgt := 21) hx hb dL_refuses_12 (by decide) ?_
    refine lv_istore_n (lv' := [(3, .int nn), (0, .ref (ad o)), (1, .int kk), (2, .int x)]) hx hb dL_refuses_21 rfl hl (by decide) (by rw [h1]; rfl) (fun ls hl => ?_)
    refine lv_iload_n hx hb dL_refuses_22 rfl (lv_at hl 3 rfl) ?_
    refine lv_iconst (v := 2) hx hb dL_refuses_23 (by decide) ?_
    refine lv_irem hx hb dL_refuses_24 (by decide) ?_
    refine lv_if_ne (tgt := 37) hx hb dL_refuses_25 (by decide) (fun h => absurd h0 h) (fun _ => ?_)
    refine lv_iconst (v := -1) hx hb dL_refuses_28 (by decide) ?_
    refine lv_iload_n hx hb dL_refuses_29 rfl (lv_at hl 3 rfl) ?_
    refine lv_bipush (v := 60) hx hb dL_refuses_30 (by decide) ?_
    refine lv_irem hx hb dL_refuses_32 (by decide) ?_
    refine lv_isub hx hb dL_refuses_33 ?_
    refine lv_goto (tgt := 43) hx hb dL_refuses_34 (by decide) ?_
    refine lv_istore (lv' := [(4, .int oo), (3, .int nn), (0, .ref (ad o)), (1, .int kk), (2, .int x)]) hx hb dL_refuses_43 hl (by decide) (by rw [h2]; rfl) (fun ls hl => ?_)
    exact seg1 _ _ _ hP hD hS (Nat.le_refl _) (lv_sub hl [1, 0, 2, 3, 4] rfl)
  · refine lv_iload_n hx hb dL_refuses_0 rfl (lv_at hl 2 rfl) ?_
    refine lv_iconst (v := 2) hx hb dL_refuses_1 (by decide) ?_
    refine lv_irem hx hb dL_refuses_2 (by decide) ?_
    refine lv_if_ne (tgt := 15) hx hb dL_refuses_3 (by decide) (fun _ => ?_) (fun h => absurd h h0)
    refine lv_iconst (v := 3) hx hb dL_refuses_15 (by decide) ?_
    refine lv_iload_n hx hb dL_refuses_16 rfl (lv_at hl 2 rfl) ?_
    refine lv_bipush (v := 60) hx hb dL_refuses_17 (by decide) ?_
    refine lv_irem hx hb dL_refuses_19 (by decide) ?_
    refine lv_iadd hx hb dL_refuses_20 ?_
    refine lv_istore_n (lv' := [(3, .int nn), (0, .ref (ad o)), (1, .int kk), (2, .int x)]) hx hb dL_refuses_21 rfl hl (by decide) (by rw [h1]; rfl) (fun ls hl => ?_)
    refine lv_iload_n hx hb dL_refuses_22 rfl (lv_at hl 3 rfl) ?_
    refine lv_iconst (v := 2) hx hb dL_refuses_23 (by decide) ?_
    refine lv_irem hx hb dL_refuses_24 (by decide) ?_
    refine lv_if_ne (tgt := 37) hx hb dL_refuses_25 (by decide) (fun _ => ?_) (fun h => absurd h h0)
    refine lv_iload_n hx hb dL_refuses_37 rfl (lv_at hl 2 rfl) ?_
    refine lv_iload_n hx hb dL_refuses_38 rfl (lv_at hl 3 rfl) ?_
    refine lv_bipush (v := 60) hx hb dL_refuses_39 (by decide) ?_
    refine lv_irem hx hb dL_refuses_41 (by decide) ?_
    refine lv_iadd hx hb dL_refuses_42 ?_
    refine lv_istore (lv' := [(4, .int oo), (3, .int nn), (0, .ref (ad o)), (1, .int kk), (2, .int x)]) hx hb dL_refuses_43 hl (by decide) (by rw [h2]; rfl) (fun ls hl => ?_)
    exact seg1 _ _ _ hP hD hS (Nat.le_refl _) (lv_sub hl [1, 0, 2, 3, 4] rfl)
