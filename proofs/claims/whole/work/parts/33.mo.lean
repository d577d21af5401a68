set_option maxHeartbeats 4000000 in
set_option maxRecDepth 100000 in
theorem k_X7_all (l : Launch) (G : GT) (ad : Nat → Nat) (o : Nat) (r : MoT) (st : Int32) (h0 : okA st 0 2) : Rd l yX7_all wsX7_all { frames := 0, cells := 0, slots := 0, locals := 0 } G (wMo G ad o r) [.ref (ad o), .int st] (.int (mAll r.2.2.2.1 st)) := by
  refine Met.ofW (cc := cX7_all) (maxL := 2) (ret := (some .int)) (by decide) rfl ?_
  intro p e s m args below meth c s₁ B hml hv
  obtain ⟨rfl, hP, hY⟩ := hv
  have hx := B.exec
  have hb := B.bytes
  have hr := B.returns
  have hts := atoms_spec (ws := wsX7_all) B.pre
  have hown : s.vm.findClass RX7 = some m.cls := findClass_of_methodNamed B.named
  have hlk := B.notSynchronized
  have CF : CallFix p m c cX7_all 2 s _ wsX7_all RX7 := ⟨hx, hb, hml, hown, hts⟩
  have hiX7 : ∀ w ∈ wsX70, w ∈ wsX7_all := fun w h => (List.mem_cons_of_mem _ (List.mem_append_right _ h))
  have kf16 := hts (.fieldLink RX7 16 "ReservoirReedModel" "many" "[I") (List.mem_cons_of_mem _ (List.mem_append_left _ (List.mem_of_getElem? (i := 0) rfl)))
  have hl := lv_entry ([.ref (ad o), .int st]) (n := 2) (Nat.le_of_ble_eq_true rfl)
  rw [lg_entry_eq]
  generalize (lg_sl ([.ref (ad o), .int st]) ++ List.replicate (2 - (lg_sl ([.ref (ad o), .int st])).length) Slot.unset).toArray = ls at hl ⊢
  have hl : lv_has ls 2 [(0, .ref (ad o)), (1, .int st)] := hl
  refine lv_iload_n hx hb dX7_all_0 rfl (lv_at hl 1 rfl) ?_
  refine lv_iconst (v := 2) hx hb dX7_all_1 (by decide) ?_
  refine lv_icmp_ne (tgt := 21) hx hb dX7_all_2 (by decide) (fun h2_1 => ?_) (fun h2_1 => ?_)
  · refine lv_aload_n hx hb dX7_all_21 rfl (lv_at hl 0 rfl) ?_
    refine va_get (D := G.1) (ci := 7) (v := .ref (ad (o+1))) (C := RX7) (T := TX7) (N := 13) hx hb hts hiX7 hown hY.1 hP 0 rfl rfl 3 (by decide) kf16 (fun _ h9 => h9) rfl dX7_all_22 ?_
    refine lv_iload_n hx hb dX7_all_25 rfl (lv_at hl 1 rfl) ?_
    refine va_iald hx hb hY.1 hP 1 0 rfl rfl (vp_st2 h0 h2_1) dX7_all_26 ?_
    exact rd_iret hx hb hr hlk (by first | with_reducible rfl | (simp only [mAll, sld_eq, h2_1, ↓reduceIte]; done)) dX7_all_27
  · refine lv_aload_n hx hb dX7_all_5 rfl (lv_at hl 0 rfl) ?_
    refine va_get (D := G.1) (ci := 7) (v := .ref (ad (o+1))) (C := RX7) (T := TX7) (N := 13) hx hb hts hiX7 hown hY.1 hP 0 rfl rfl 3 (by decide) kf16 (fun _ h9 => h9) rfl dX7_all_6 ?_
    refine lv_iconst (v := 0) hx hb dX7_all_9 (by decide) ?_
    refine va_iald hx hb hY.1 hP 1 0 rfl rfl vp_0_2 dX7_all_10 ?_
    refine lv_aload_n hx hb dX7_all_11 rfl (lv_at hl 0 rfl) ?_
    refine va_get (D := G.1) (ci := 7) (v := .ref (ad (o+1))) (C := RX7) (T := TX7) (N := 13) hx hb hts hiX7 hown hY.1 hP 0 rfl rfl 3 (by decide) kf16 (fun _ h9 => h9) rfl dX7_all_12 ?_
    refine lv_iconst (v := 1) hx hb dX7_all_15 (by decide) ?_
    refine va_iald hx hb hY.1 hP 1 0 rfl rfl vp_1_2 dX7_all_16 ?_
    refine lv_iadd hx hb dX7_all_17 ?_
    refine lv_goto (tgt := 27) hx hb dX7_all_18 (by decide) ?_
    exact rd_iret hx hb hr hlk (by first | with_reducible rfl | (simp only [mAll, sld_eq, eq_true h2_1, ↓reduceIte]; done)) dX7_all_27

set_option maxHeartbeats 4000000 in
set_option maxRecDepth 100000 in
theorem k_X7_sampled (l : Launch) (G : GT) (ad : Nat → Nat) (o : Nat) (r : MoT) (st : Int32) (h0 : okA st 0 2) : Rd l yX7_sampled wsX7_sampled { frames := 1, cells := 0, slots := 0, locals := 21 } G (wMo G ad o r) [.ref (ad o), .int st] (.int (mSam r.2.2.2.1 r.2.1 st)) := by
  refine Met.ofW (cc := cX7_sampled) (maxL := 2) (ret := (some .int)) (by decide) rfl ?_
  intro p e s m args below meth c s₁ B hml hv
  obtain ⟨rfl, hP, hY⟩ := hv
  have hx := B.exec
  have hb := B.bytes
  have hr := B.returns
  have hts := atoms_spec (ws := wsX7_sampled) B.pre
  have hown : s.vm.findClass RX7 = some m.cls := findClass_of_methodNamed B.named
  have hlk := B.notSynchronized
  have CF : CallFix p m c cX7_sampled 2 s _ wsX7_sampled RX7 := ⟨hx, hb, hml, hown, hts⟩
  have hiX7 : ∀ w ∈ wsX70, w ∈ wsX7_sampled := fun w h => (List.mem_cons_of_mem _ (List.mem_append_right _ h))
  have kf7 := hts (.fieldLink RX7 7 "ReservoirReedModel" "size" "I") (List.mem_cons_of_mem _ (List.mem_append_left _ (List.mem_of_getElem? (i := 0) rfl)))
  have hl := lv_entry ([.ref (ad o), .int st]) (n := 2) (Nat.le_of_ble_eq_true rfl)
  rw [lg_entry_eq]
  generalize (lg_sl ([.ref (ad o), .int st]) ++ List.replicate (2 - (lg_sl ([.ref (ad o), .int st])).length) Slot.unset).toArray = ls at hl ⊢
  have hl : lv_has ls 2 [(0, .ref (ad o)), (1, .int st)] := hl
  refine lv_aload_n hx hb dX7_sampled_0 rfl (lv_at hl 0 rfl) ?_
  refine lv_iload_n hx hb dX7_sampled_1 rfl (lv_at hl 1 rfl) ?_
  refine rdV (w0 := (wMo G ad o r)) (As := [.int st]) (rest := []) CF (k_X7_all l G ad o r st h0) (cwV 1 hts gX7_sampled_X7_all rfl rfl rfl (by decide +kernel) ⟨Nat.le_of_ble_eq_true rfl, Nat.le_of_ble_eq_true rfl⟩) hP hY rfl rfl rfl hl.1 rfl (lv_room (Nat.le_of_ble_eq_true rfl)) dX7_sampled_2 ⟨Nat.zero_le _, Nat.zero_le _⟩ ?_
  refine lv_aload_n hx hb dX7_sampled_5 rfl (lv_at hl 0 rfl) ?_
  refine va_get (D := G.1) (ci := 7) (v := .int r.2.1) (C := RX7) (T := TX7) (N := 13) hx hb hts hiX7 hown hY.1 hP 0 rfl rfl 1 (by decide) kf7 (fun _ h9 => h9) rfl dX7_sampled_6 ?_
  refine lv_icmp_ge (tgt := 20) hx hb dX7_sampled_9 (by decide) (fun h9_1 => ?_) (fun h9_1 => ?_)
  · refine lv_aload_n hx hb dX7_sampled_20 rfl (lv_at hl 0 rfl) ?_
    refine va_get (D := G.1) (ci := 7) (v := .int r.2.1) (C := RX7) (T := TX7) (N := 13) hx hb hts hiX7 hown hY.1 hP 0 rfl rfl 1 (by decide) kf7 (fun _ h9 => h9) rfl dX7_sampled_21 ?_
    exact rd_iret hx hb hr hlk (by first | with_reducible rfl | (simp only [mSam, sld_eq, h9_1, ↓reduceIte]; done)) dX7_sampled_24
  · refine lv_aload_n hx hb dX7_sampled_12 rfl (lv_at hl 0 rfl) ?_
    refine lv_iload_n hx hb dX7_sampled_13 rfl (lv_at hl 1 rfl) ?_
    refine rdV (w0 := (wMo G ad o r)) (As := [.int st]) (rest := []) CF (k_X7_all l G ad o r st h0) (cwV 1 hts gX7_sampled_X7_all rfl rfl rfl (by decide +kernel) ⟨Nat.le_of_ble_eq_true rfl, Nat.le_of_ble_eq_true rfl⟩) hP hY rfl rfl rfl hl.1 rfl (lv_room (Nat.le_of_ble_eq_true rfl)) dX7_sampled_14 ⟨Nat.zero_le _, Nat.zero_le _⟩ ?_
    refine lv_goto (tgt := 24) hx hb dX7_sampled_17 (by decide) ?_
    exact rd_iret hx hb hr hlk (by first | with_reducible rfl | (simp only [mSam, sld_eq, h9_1, ↓reduceIte]; done)) dX7_sampled_24

set_option maxHeartbeats 4000000 in
set_option maxRecDepth 100000 in
theorem k_X7_isOf (l : Launch) (G : GT) (ad : Nat → Nat) (o : Nat) (r : MoT) (st x : Int32) (hx2 : vp_in (x / 300) 2) : Rd l yX7_isOf wsX7_isOf { frames := 0, cells := 0, slots := 0, locals := 0 } G (wMo G ad o r) [.ref (ad o), .int st, .int x] (.int (mIsOf r.2.2.2.1 st x)) := by
  refine Met.ofW (cc := cX7_isOf) (maxL := 4) (ret := (some .boolean)) (by decide) rfl ?_
  intro p e s m args below meth c s₁ B hml hv
  obtain ⟨rfl, hP, hY⟩ := hv
  have hx := B.exec
  have hb := B.bytes
  have hr := B.returns
  have hts := atoms_spec (ws := wsX7_isOf) B.pre
  have hown : s.vm.findClass RX7 = some m.cls := findClass_of_methodNamed B.named
  have hlk := B.notSynchronized
  have CF : CallFix p m c cX7_isOf 4 s _ wsX7_isOf RX7 := ⟨hx, hb, hml, hown, hts⟩
  have hiX7 : ∀ w ∈ wsX70, w ∈ wsX7_isOf := fun w h => (List.mem_cons_of_mem _ (List.mem_append_right _ h))
  have kf16 := hts (.fieldLink RX7 16 "ReservoirReedModel" "many" "[I") (List.mem_cons_of_mem _ (List.mem_append_left _ (List.mem_of_getElem? (i := 0) rfl)))
  have hl := lv_entry ([.ref (ad o), .int st, .int x]) (n := 4) (Nat.le_of_ble_eq_true rfl)
  rw [lg_entry_eq]
  generalize (lg_sl ([.ref (ad o), .int st, .int x]) ++ List.replicate (4 - (lg_sl ([.ref (ad o), .int st, .int x])).length) Slot.unset).toArray = ls at hl ⊢
  have hl : lv_has ls 4 [(0, .ref (ad o)), (1, .int st), (2, .int x)] := hl
  refine lv_iload_n hx hb dX7_isOf_0 rfl (lv_at hl 2 rfl) ?_
  refine lv_sipush (v := 300) hx hb dX7_isOf_1 (by decide) ?_
  refine lv_idiv hx hb dX7_isOf_4 (by decide) ?_
  refine lv_istore_n (lv' := [(3, .int (x / 300)), (0, .ref (ad o)), (1, .int st), (2, .int x)]) hx hb dX7_isOf_5 rfl hl (by decide) rfl (fun ls hl => ?_)
  refine lv_iload_n hx hb dX7_isOf_6 rfl (lv_at hl 2 rfl) ?_
  refine lv_iconst (v := 2) hx hb dX7_isOf_7 (by decide) ?_
  refine lv_icmp_eq (tgt := 16) hx hb dX7_isOf_8 (by decide) (fun h8_1 => ?_) (fun h8_1 => ?_)
  · refine lv_iload_n hx hb dX7_isOf_16 rfl (lv_at hl 3 rfl) ?_
    refine lv_sipush (v := 300) hx hb dX7_isOf_17 (by decide) ?_
    refine lv_irem hx hb dX7_isOf_20 (by decide) ?_
    refine lv_aload_n hx hb dX7_isOf_21 rfl (lv_at hl 1 rfl) ?_
    refine va_get (D := G.1) (ci := 7) (v := .ref (ad (o+1))) (C := RX7) (T := TX7) (N := 13) hx hb hts hiX7 hown hY.1 hP 0 rfl rfl 3 (by decide) kf16 (fun _ h9 => h9) rfl dX7_isOf_22 ?_
    refine lv_iload_n hx hb dX7_isOf_25 rfl (lv_at hl 0 rfl) ?_
    refine va_iald hx hb hY.1 hP 1 0 rfl rfl hx2 dX7_isOf_26 ?_
    refine lv_icmp_ge (tgt := 34) hx hb dX7_isOf_27 (by decide) (fun h27_2 => ?_) (fun h27_2 => ?_)
    · refine lv_iconst (v := 0) hx hb dX7_isOf_34 (by decide) ?_
      exact rd_zret hx hb hr hlk (by first | with_reducible rfl | (simp only [mIsOf, sld_eq, eq_true h8_1, h27_2, ↓reduceIte]; done)) rfl dX7_isOf_35
    · refine lv_iconst (v := 1) hx hb dX7_isOf_30 (by decide) ?_
      refine lv_goto (tgt := 35) hx hb dX7_isOf_31 (by decide) ?_
      exact rd_zret hx hb hr hlk (by first | with_reducible rfl | (simp only [mIsOf, sld_eq, eq_true h8_1, h27_2, ↓reduceIte]; done)) rfl dX7_isOf_35
  · refine lv_iload_n hx hb dX7_isOf_11 rfl (lv_at hl 2 rfl) ?_
    refine lv_iload_n hx hb dX7_isOf_12 rfl (lv_at hl 0 rfl) ?_
    refine lv_icmp_ne (tgt := 34) hx hb dX7_isOf_13 (by decide) (fun h13_3 => ?_) (fun h13_3 => ?_)
    · refine lv_iconst (v := 0) hx hb dX7_isOf_34 (by decide) ?_
      exact rd_zret hx hb hr hlk (by first | with_reducible rfl | (simp only [mIsOf, sld_eq, h8_1, h13_3, ↓reduceIte]; done)) rfl dX7_isOf_35
    · refine lv_iload_n hx hb dX7_isOf_16 rfl (lv_at hl 3 rfl) ?_
      refine lv_sipush (v := 300) hx hb dX7_isOf_17 (by decide) ?_
      refine lv_irem hx hb dX7_isOf_20 (by decide) ?_
      refine lv_aload_n hx hb dX7_isOf_21 rfl (lv_at hl 1 rfl) ?_
      refine va_get (D := G.1) (ci := 7) (v := .ref (ad (o+1))) (C := RX7) (T := TX7) (N := 13) hx hb hts hiX7 hown hY.1 hP 0 rfl rfl 3 (by decide) kf16 (fun _ h9 => h9) rfl dX7_isOf_22 ?_
      refine lv_iload_n hx hb dX7_isOf_25 rfl (lv_at hl 0 rfl) ?_
      refine va_iald hx hb hY.1 hP 1 0 rfl rfl hx2 dX7_isOf_26 ?_
      refine lv_icmp_ge (tgt := 34) hx hb dX7_isOf_27 (by decide) (fun h27_4 => ?_) (fun h27_4 => ?_)
      · refine lv_iconst (v := 0) hx hb dX7_isOf_34 (by decide) ?_
        exact rd_zret hx hb hr hlk (by first | with_reducible rfl | (simp only [mIsOf, sld_eq, h8_1, eq_true h13_3, h27_4, ↓reduceIte]; done)) rfl dX7_isOf_35
      · refine lv_iconst (v := 1) hx hb dX7_isOf_30 (by decide) ?_
        refine lv_goto (tgt := 35) hx hb dX7_isOf_31 (by decide) ?_
        exact rd_zret hx hb hr hlk (by first | with_reducible rfl | (simp only [mIsOf, sld_eq, h8_1, eq_true h13_3, h27_4, ↓reduceIte]; done)) rfl dX7_isOf_35

set_option maxHeartbeats 4000000 in
set_option maxRecDepth 100000 in
theorem k_X7_isAhead (l : Launch) (G : GT) (ad : Nat → Nat) (o : Nat) (r : MoT) (x z : Int32) (hx2 : vp_in x 600) (hz2 : vp_in z 600) : Rd l yX7_isAhead wsX7_isAhead { frames := 0, cells := 0, slots := 0, locals := 0 } G (wMo G ad o r) [.ref (ad o), .int x, .int z] (.int (mAhead r.2.2.2.2.2.1 r.2.2.2.2.2.2.2.1 x z)) := by
  refine Met.ofW (cc := cX7_isAhead) (maxL := 7) (ret := (some .boolean)) (by decide) rfl ?_
  intro p e s m args below meth c s₁ B hml hv
  obtain ⟨rfl, hP, hY⟩ := hv
  have hx := B.exec
  have hb := B.bytes
  have hr := B.returns
  have hts := atoms_spec (ws := wsX7_isAhead) B.pre
  have hown : s.vm.findClass RX7 = some m.cls := findClass_of_methodNamed B.named
  have hlk := B.notSynchronized
  have CF : CallFix p m c cX7_isAhead 7 s _ wsX7_isAhead RX7 := ⟨hx, hb, hml, hown, hts⟩
  have hiX7 : ∀ w ∈ wsX70, w ∈ wsX7_isAhead := fun w h => (List.mem_cons_of_mem _ (List.mem_append_right _ h))
  have kf23 := hts (.fieldLink RX7 23 "ReservoirReedModel" "weights" "[I") (List.mem_cons_of_mem _ (List.mem_append_left _ (List.mem_of_getElem? (i := 0) rfl)))
  have kf29 := hts (.fieldLink RX7 29 "ReservoirReedModel" "firsts" "[I") (List.mem_cons_of_mem _ (List.mem_append_left _ (List.mem_of_getElem? (i := 1) rfl)))
  have hl := lv_entry ([.ref (ad o), .int x, .int z]) (n := 7) (Nat.le_of_ble_eq_true rfl)
  rw [lg_entry_eq]
  generalize (lg_sl ([.ref (ad o), .int x, .int z]) ++ List.replicate (7 - (lg_sl ([.ref (ad o), .int x, .int z])).length) Slot.unset).toArray = ls at hl ⊢
  have hl : lv_has ls 7 [(0, .ref (ad o)), (1, .int x), (2, .int z)] := hl
  refine lv_aload_n hx hb dX7_isAhead_0 rfl (lv_at hl 0 rfl) ?_
  refine va_get (D := G.1) (ci := 7) (v := .ref (ad (o+3))) (C := RX7) (T := TX7) (N := 13) hx hb hts hiX7 hown hY.1 hP 0 rfl rfl 5 (by decide) kf23 (fun _ h9 => h9) rfl dX7_isAhead_1 ?_
  refine lv_iload_n hx hb dX7_isAhead_4 rfl (lv_at hl 1 rfl) ?_
  refine va_iald hx hb hY.1 hP 3 0 rfl rfl hx2 dX7_isAhead_5 ?_
  refine lv_i2l hx hb dX7_isAhead_6 rfl ?_
  refine lv_aload_n hx hb dX7_isAhead_7 rfl (lv_at hl 0 rfl) ?_
  refine va_get (D := G.1) (ci := 7) (v := .ref (ad (o+5))) (C := RX7) (T := TX7) (N := 13) hx hb hts hiX7 hown hY.1 hP 0 rfl rfl 7 (by decide) kf29 (fun _ h9 => h9) rfl dX7_isAhead_8 ?_
  refine lv_iload_n hx hb dX7_isAhead_11 rfl (lv_at hl 2 rfl) ?_
  refine va_iald hx hb hY.1 hP 5 0 rfl rfl hz2 dX7_isAhead_12 ?_
  refine lv_i2l hx hb dX7_isAhead_13 rfl ?_
  refine lv_lconst (v := 1) hx hb dX7_isAhead_14 (by decide) ?_
  refine lv_ladd hx hb dX7_isAhead_15 ?_
  refine lv_lmul hx hb dX7_isAhead_16 ?_
  refine lv_lstore_n (lv' := [(3, .long (((r.2.2.2.2.2.1 x.toNatClampNeg).toInt64) * (((r.2.2.2.2.2.2.2.1 z.toNatClampNeg).toInt64) + 1))), (0, .ref (ad o)), (1, .int x), (2, .int z)]) hx hb dX7_isAhead_17 rfl hl (by decide) rfl (fun ls hl => ?_)
  refine lv_aload_n hx hb dX7_isAhead_18 rfl (lv_at hl 1 rfl) ?_
  refine va_get (D := G.1) (ci := 7) (v := .ref (ad (o+3))) (C := RX7) (T := TX7) (N := 13) hx hb hts hiX7 hown hY.1 hP 0 rfl rfl 5 (by decide) kf23 (fun _ h9 => h9) rfl dX7_isAhead_19 ?_
  refine lv_iload_n hx hb dX7_isAhead_22 rfl (lv_at hl 3 rfl) ?_
  refine va_iald hx hb hY.1 hP 3 0 rfl rfl hz2 dX7_isAhead_23 ?_
  refine lv_i2l hx hb dX7_isAhead_24 rfl ?_
  refine lv_aload_n hx hb dX7_isAhead_25 rfl (lv_at hl 1 rfl) ?_
  refine va_get (D := G.1) (ci := 7) (v := .ref (ad (o+5))) (C := RX7) (T := TX7) (N := 13) hx hb hts hiX7 hown hY.1 hP 0 rfl rfl 7 (by decide) kf29 (fun _ h9 => h9) rfl dX7_isAhead_26 ?_
  refine lv_iload_n hx hb dX7_isAhead_29 rfl (lv_at hl 2 rfl) ?_
  refine va_iald hx hb hY.1 hP 5 0 rfl rfl hx2 dX7_isAhead_30 ?_
  refine lv_i2l hx hb dX7_isAhead_31 rfl ?_
  refine lv_lconst (v := 1) hx hb dX7_isAhead_32 (by decide) ?_
  refine lv_ladd hx hb dX7_isAhead_33 ?_
  refine lv_lmul hx hb dX7_isAhead_34 ?_
  refine lv_lstore (lv' := [(5, .long (((r.2.2.2.2.2.1 z.toNatClampNeg).toInt64) * (((r.2.2.2.2.2.2.2.1 x.toNatClampNeg).toInt64) + 1))), (3, .long (((r.2.2.2.2.2.1 x.toNatClampNeg).toInt64) * (((r.2.2.2.2.2.2.2.1 z.toNatClampNeg).toInt64) + 1))), (0, .ref (ad o)), (1, .int x), (2, .int z)]) hx hb dX7_isAhead_35 hl (by decide) rfl (fun ls hl => ?_)
  refine lv_lload_n hx hb dX7_isAhead_37 rfl (lv_at hl 1 rfl) ?_
  refine lv_lload hx hb dX7_isAhead_38 (lv_at hl 0 rfl) ?_
  refine W.lcmp hx hb dX7_isAhead_40 ?_
  refine lv_if_gt (tgt := 56) hx hb dX7_isAhead_41 (by decide) (fun h41_1 => ?_) (fun h41_1 => ?_)
  · refine lv_iconst (v := 1) hx hb dX7_isAhead_56 (by decide) ?_
    refine lv_goto (tgt := 61) hx hb dX7_isAhead_57 (by decide) ?_
    exact rd_zret hx hb hr hlk (by first | with_reducible rfl | (simp only [mAhead, mOwn, sld_eq, h41_1, ↓reduceIte]; done)) rfl dX7_isAhead_61
  · refine lv_lload_n hx hb dX7_isAhead_44 rfl (lv_at hl 1 rfl) ?_
    refine lv_lload hx hb dX7_isAhead_45 (lv_at hl 0 rfl) ?_
    refine W.lcmp hx hb dX7_isAhead_47 ?_
    refine lv_if_ne (tgt := 60) hx hb dX7_isAhead_48 (by decide) (fun h48_2 => ?_) (fun h48_2 => ?_)
    · refine lv_iconst (v := 0) hx hb dX7_isAhead_60 (by decide) ?_
      exact rd_zret hx hb hr hlk (by first | with_reducible rfl | (simp only [mAhead, mOwn, sld_eq, h41_1, h48_2, ↓reduceIte]; done)) rfl dX7_isAhead_61
    · refine lv_iload_n hx hb dX7_isAhead_51 rfl (lv_at hl 3 rfl) ?_
      refine lv_iload_n hx hb dX7_isAhead_52 rfl (lv_at hl 4 rfl) ?_
      refine lv_icmp_ge (tgt := 60) hx hb dX7_isAhead_53 (by decide) (fun h53_3 => ?_) (fun h53_3 => ?_)
      · refine lv_iconst (v := 0) hx hb dX7_isAhead_60 (by decide) ?_
        exact rd_zret hx hb hr hlk (by first | with_reducible rfl | (simp only [mAhead, mOwn, sld_eq, h41_1, eq_true h48_2, h53_3, ↓reduceIte]; done)) rfl dX7_isAhead_61
      · refine lv_iconst (v := 1) hx hb dX7_isAhead_56 (by decide) ?_
        refine lv_goto (tgt := 61) hx hb dX7_isAhead_57 (by decide) ?_
        exact rd_zret hx hb hr hlk (by first | with_reducible rfl | (simp only [mAhead, mOwn, sld_eq, h41_1, eq_true h48_2, h53_3, ↓reduceIte]; done)) rfl dX7_isAhead_61

set_option maxHeartbeats 4000000 in
set_option maxRecDepth 100000 in
theorem k_X7_hash (l : Launch) (G : GT) (ia : Int32) : Rd l yX7_hash wsX7_hash { frames := 0, cells := 0, slots := 0, locals := 0 } G ([] : va_W) [.int ia] (.long (hash_ ia)) := by
  refine Met.ofW (cc := cX7_hash) (maxL := 1) (ret := (some .long)) (by decide) rfl ?_
  intro p e s m args below meth c s₁ B hml hv
  obtain ⟨rfl, hP, hY⟩ := hv
  have hx := B.exec
  have hb := B.bytes
  have hr := B.returns
  have hts := atoms_spec (ws := wsX7_hash) B.pre
  have hown : s.vm.findClass RX7 = some m.cls := findClass_of_methodNamed B.named
  have hlk := B.notSynchronized
  have CF : CallFix p m c cX7_hash 1 s _ wsX7_hash RX7 := ⟨hx, hb, hml, hown, hts⟩
  have kc94 := hts (.constantLong RX7 94 (2654435761)) (List.mem_cons_of_mem _ (List.mem_of_getElem? (i := 0) rfl))
  have kc96 := hts (.constantLong RX7 96 (4294967296)) (List.mem_cons_of_mem _ (List.mem_of_getElem? (i := 1) rfl))
  have hl := lv_entry ([.int ia]) (n := 1) (Nat.le_of_ble_eq_true rfl)
  rw [lg_entry_eq]
  generalize (lg_sl ([.int ia]) ++ List.replicate (1 - (lg_sl ([.int ia])).length) Slot.unset).toArray = ls at hl ⊢
  have hl : lv_has ls 1 [(0, .int ia)] := hl
  refine lv_iload_n hx hb dX7_hash_0 rfl (lv_at hl 0 rfl) ?_
  refine lv_i2l hx hb dX7_hash_1 rfl ?_
  refine lv_ldc2 hx hb hown kc94 dX7_hash_2 ?_
  refine lv_lmul hx hb dX7_hash_5 ?_
  refine lv_ldc2 hx hb hown kc96 dX7_hash_6 ?_
  refine lv_lrem hx hb dX7_hash_9 (by decide) ?_
  refine lv_lconst (v := 1) hx hb dX7_hash_10 (by decide) ?_
  refine lv_ladd hx hb dX7_hash_11 ?_
  exact rd_lret hx hb hr hlk (by first | with_reducible rfl | (simp only [hash_, sld_eq, ↓reduceIte]; done)) dX7_hash_12

set_option maxHeartbeats 4000000 in
set_option maxRecDepth 100000 in
theorem k_X7_begin (l : Launch) (G : GT) (ad : Nat → Nat) (o : Nat) (r : MoT) (k2 w2 : Int32) (h0 : okA k2 2 16) (h1 : okA w2 1 64) : Wr l yX7_begin wsX7_begin { frames := 1, cells := 0, slots := 0, locals := 22 } G (wMo G ad o r) (wMo G ad o (0, k2, w2, upd (upd r.2.2.2.1 (0 : Int32).toNatClampNeg 0) (1 : Int32).toNatClampNeg 0, r.2.2.2.2)) [.ref (ad o), .int k2, .int w2] none := by
  intro sz
  refine Met.ofW (cc := cX7_begin) (maxL := 3) (ret := none) (by decide) rfl ?_
  intro p e s m args below meth c s₁ B hml hv
  obtain ⟨rfl, hsz, hP, hY, hD0⟩ := hv
  subst hsz
  have hD := hD0.self (sz := s.heap.size)
  generalize hAe : va_A (wMo G ad o r) s.heap.size = A at hD ⊢
  have hA : ∀ q : Nat, s.heap.size ≤ q → A q := fun q h => by rw [← hAe]; exact Or.inr h
  have hS : va_S A s.heap s.heap [] := va_S.rf
  have hx := B.exec
  have hb := B.bytes
  have hr := B.returns
  have hts := atoms_spec (ws := wsX7_begin) B.pre
  have hown : s.vm.findClass RX7 = some m.cls := findClass_of_methodNamed B.named
  have hlk := B.notSynchronized
  have CF : CallFix p m c cX7_begin 3 s _ wsX7_begin RX7 := ⟨hx, hb, hml, hown, hts⟩
  have hiX7 : ∀ w ∈ wsX70, w ∈ wsX7_begin := fun w h => (List.mem_cons_of_mem _ (List.mem_append_right _ h))
  have kf7 := hts (.fieldLink RX7 7 "ReservoirReedModel" "size" "I") (List.mem_cons_of_mem _ (List.mem_append_left _ (List.mem_of_getElem? (i := 0) rfl)))
  have kf13 := hts (.fieldLink RX7 13 "ReservoirReedModel" "window" "I") (List.mem_cons_of_mem _ (List.mem_append_left _ (List.mem_of_getElem? (i := 1) rfl)))
  have kf16 := hts (.fieldLink RX7 16 "ReservoirReedModel" "many" "[I") (List.mem_cons_of_mem _ (List.mem_append_left _ (List.mem_of_getElem? (i := 2) rfl)))
  have hl := lv_entry ([.ref (ad o), .int k2, .int w2]) (n := 3) (Nat.le_of_ble_eq_true rfl)
  rw [lg_entry_eq]
  generalize (lg_sl ([.ref (ad o), .int k2, .int w2]) ++ List.replicate (3 - (lg_sl ([.ref (ad o), .int k2, .int w2])).length) Slot.unset).toArray = ls at hl ⊢
  have hl : lv_has ls 3 [(0, .ref (ad o)), (1, .int k2), (2, .int w2)] := hl
  refine lv_aload_n hx hb dX7_begin_0 rfl (lv_at hl 0 rfl) ?_
  refine lv_iload_n hx hb dX7_begin_1 rfl (lv_at hl 1 rfl) ?_
  refine lv_iconst (v := 2) hx hb dX7_begin_2 (by decide) ?_
  refine lv_bipush (v := 16) hx hb dX7_begin_3 (by decide) ?_
  refine rdS (w0 := ([] : va_W)) (As := [.int k2, .int 2, .int 16]) (rest := [.ref (ad o)]) CF (k_X7_in l G k2 2 16 h0) (va_cwS 3 hts gX7_begin_X7_in rfl rfl rfl (by decide +kernel) ⟨Nat.le_of_ble_eq_true rfl, Nat.le_of_ble_eq_true rfl⟩) va_P_nil hY rfl hl.1 rfl (lv_room (Nat.le_of_ble_eq_true rfl)) dX7_begin_5 ⟨Nat.zero_le _, Nat.zero_le _⟩ ?_
  refine lv_if_eq (tgt := 25) hx hb dX7_begin_8 (by decide) (fun h8_1 => ?_) (fun h8_1 => ?_)
  · exact absurd h8_1 (by decide)
  · refine lv_iload_n hx hb dX7_begin_11 rfl (lv_at hl 2 rfl) ?_
    refine lv_iconst (v := 1) hx hb dX7_begin_12 (by decide) ?_
    refine lv_bipush (v := 64) hx hb dX7_begin_13 (by decide) ?_
    refine rdS (w0 := ([] : va_W)) (As := [.int w2, .int 1, .int 64]) (rest := [.ref (ad o)]) CF (k_X7_in l G w2 1 64 h1) (va_cwS 3 hts gX7_begin_X7_in rfl rfl rfl (by decide +kernel) ⟨Nat.le_of_ble_eq_true rfl, Nat.le_of_ble_eq_true rfl⟩) va_P_nil hY rfl hl.1 rfl (lv_room (Nat.le_of_ble_eq_true rfl)) dX7_begin_15 ⟨Nat.zero_le _, Nat.zero_le _⟩ ?_
    refine lv_if_eq (tgt := 25) hx hb dX7_begin_18 (by decide) (fun h18_2 => ?_) (fun h18_2 => ?_)
    · exact absurd h18_2 (by decide)
    · refine lv_iconst (v := 0) hx hb dX7_begin_21 (by decide) ?_
      refine lv_goto (tgt := 26) hx hb dX7_begin_22 (by decide) ?_
      refine wrV [] (wMo G ad o r) [] (wMo G ad o (0, r.2)) (As := [.int 0]) (rest := []) CF (k0_X7_refused l G ad o r 0 rfl) (cwV 1 hts gX7_begin_X7_refused rfl rfl rfl (by decide +kernel) ⟨Nat.le_of_ble_eq_true rfl, Nat.le_of_ble_eq_true rfl⟩) hP hD hS hA hY rfl rfl (fst_Mo _ _ _ _ _) rfl hl.1 rfl (lv_room (Nat.le_of_ble_eq_true rfl)) dX7_begin_26 ⟨Nat.zero_le _, Nat.zero_le _⟩ (fun H locs hP hD hS => ?_)
      have hP : va_P G.1 vwCl (wMo G ad o (0, r.2)) H := hP
      have hD : va_D A (wMo G ad o (0, r.2)) := hD
      refine lv_if_ne (tgt := 56) hx hb dX7_begin_29 (by decide) (fun h29_3 => ?_) (fun h29_3 => ?_)
      · exact absurd rfl h29_3
      · refine lv_aload_n hx hb dX7_begin_32 rfl (lv_at hl 0 rfl) ?_
        refine lv_iload_n hx hb dX7_begin_33 rfl (lv_at hl 1 rfl) ?_
        refine va_put (D := G.1) (ci := 7) (v := .int k2) (ty := .int) (C := RX7) (T := TX7) (N := 13) hx hb hts hiX7 tyX7 tyX7_ok nmX7 hown hY.1 hP hD hS 0 rfl rfl 1 (by decide) kf7 (fun _ h9 => h9) rfl (by decide +kernel) rfl rfl (Nat.le_of_ble_eq_true rfl) dX7_begin_34 (fun H locs hP hD hS => ?_)
        have hP : va_P G.1 vwCl (wMo G ad o ((0, r.2).1, k2, (0, r.2).2.2.1, (0, r.2).2.2.2.1, (0, r.2).2.2.2.2.1, (0, r.2).2.2.2.2.2.1, (0, r.2).2.2.2.2.2.2.1, (0, r.2).2.2.2.2.2.2.2.1, (0, r.2).2.2.2.2.2.2.2.2.1, (0, r.2).2.2.2.2.2.2.2.2.2.1, (0, r.2).2.2.2.2.2.2.2.2.2.2.1, (0, r.2).2.2.2.2.2.2.2.2.2.2.2.1, (0, r.2).2.2.2.2.2.2.2.2.2.2.2.2)) H := hP
        have hD : va_D A (wMo G ad o ((0, r.2).1, k2, (0, r.2).2.2.1, (0, r.2).2.2.2.1, (0, r.2).2.2.2.2.1, (0, r.2).2.2.2.2.2.1, (0, r.2).2.2.2.2.2.2.1, (0, r.2).2.2.2.2.2.2.2.1, (0, r.2).2.2.2.2.2.2.2.2.1, (0, r.2).2.2.2.2.2.2.2.2.2.1, (0, r.2).2.2.2.2.2.2.2.2.2.2.1, (0, r.2).2.2.2.2.2.2.2.2.2.2.2.1, (0, r.2).2.2.2.2.2.2.2.2.2.2.2.2)) := hD
        refine lv_aload_n hx hb dX7_begin_37 rfl (lv_at hl 0 rfl) ?_
        refine lv_iload_n hx hb dX7_begin_38 rfl (lv_at hl 2 rfl) ?_
        refine va_put (D := G.1) (ci := 7) (v := .int w2) (ty := .int) (C := RX7) (T := TX7) (N := 13) hx hb hts hiX7 tyX7 tyX7_ok nmX7 hown hY.1 hP hD hS 0 rfl rfl 2 (by decide) kf13 (fun _ h9 => h9) rfl (by decide +kernel) rfl rfl (Nat.le_of_ble_eq_true rfl) dX7_begin_39 (fun H locs hP hD hS => ?_)
        have hP : va_P G.1 vwCl (wMo G ad o ((0, r.2).1, k2, w2, (0, r.2).2.2.2.1, (0, r.2).2.2.2.2.1, (0, r.2).2.2.2.2.2.1, (0, r.2).2.2.2.2.2.2.1, (0, r.2).2.2.2.2.2.2.2.1, (0, r.2).2.2.2.2.2.2.2.2.1, (0, r.2).2.2.2.2.2.2.2.2.2.1, (0, r.2).2.2.2.2.2.2.2.2.2.2.1, (0, r.2).2.2.2.2.2.2.2.2.2.2.2.1, (0, r.2).2.2.2.2.2.2.2.2.2.2.2.2)) H := hP
        have hD : va_D A (wMo G ad o ((0, r.2).1, k2, w2, (0, r.2).2.2.2.1, (0, r.2).2.2.2.2.1, (0, r.2).2.2.2.2.2.1, (0, r.2).2.2.2.2.2.2.1, (0, r.2).2.2.2.2.2.2.2.1, (0, r.2).2.2.2.2.2.2.2.2.1, (0, r.2).2.2.2.2.2.2.2.2.2.1, (0, r.2).2.2.2.2.2.2.2.2.2.2.1, (0, r.2).2.2.2.2.2.2.2.2.2.2.2.1, (0, r.2).2.2.2.2.2.2.2.2.2.2.2.2)) := hD
        refine lv_aload_n hx hb dX7_begin_42 rfl (lv_at hl 0 rfl) ?_
        refine va_get (D := G.1) (ci := 7) (v := .ref (ad (o+1))) (C := RX7) (T := TX7) (N := 13) hx hb hts hiX7 hown hY.1 hP 0 rfl rfl 3 (by decide) kf16 (fun _ h9 => h9) rfl dX7_begin_43 ?_
        refine lv_iconst (v := 0) hx hb dX7_begin_46 (by decide) ?_
        refine lv_iconst (v := 0) hx hb dX7_begin_47 (by decide) ?_
        refine va_iast hx hb hY.1 hP hD hS 1 0 rfl rfl vp_0_2 dX7_begin_48 (fun H locs hP hD hS => ?_)
        have hP : va_P G.1 vwCl (wMo G ad o ((0, r.2).1, k2, w2, upd ((0, r.2).2.2.2.1) (0 : Int32).toNatClampNeg 0, (0, r.2).2.2.2.2.1, (0, r.2).2.2.2.2.2.1, (0, r.2).2.2.2.2.2.2.1, (0, r.2).2.2.2.2.2.2.2.1, (0, r.2).2.2.2.2.2.2.2.2.1, (0, r.2).2.2.2.2.2.2.2.2.2.1, (0, r.2).2.2.2.2.2.2.2.2.2.2.1, (0, r.2).2.2.2.2.2.2.2.2.2.2.2.1, (0, r.2).2.2.2.2.2.2.2.2.2.2.2.2)) H := hP
        have hD : va_D A (wMo G ad o ((0, r.2).1, k2, w2, upd ((0, r.2).2.2.2.1) (0 : Int32).toNatClampNeg 0, (0, r.2).2.2.2.2.1, (0, r.2).2.2.2.2.2.1, (0, r.2).2.2.2.2.2.2.1, (0, r.2).2.2.2.2.2.2.2.1, (0, r.2).2.2.2.2.2.2.2.2.1, (0, r.2).2.2.2.2.2.2.2.2.2.1, (0, r.2).2.2.2.2.2.2.2.2.2.2.1, (0, r.2).2.2.2.2.2.2.2.2.2.2.2.1, (0, r.2).2.2.2.2.2.2.2.2.2.2.2.2)) := hD
        refine lv_aload_n hx hb dX7_begin_49 rfl (lv_at hl 0 rfl) ?_
        refine va_get (D := G.1) (ci := 7) (v := .ref (ad (o+1))) (C := RX7) (T := TX7) (N := 13) hx hb hts hiX7 hown hY.1 hP 0 rfl rfl 3 (by decide) kf16 (fun _ h9 => h9) rfl dX7_begin_50 ?_
        refine lv_iconst (v := 1) hx hb dX7_begin_53 (by decide) ?_
        refine lv_iconst (v := 0) hx hb dX7_begin_54 (by decide) ?_
        refine va_iast hx hb hY.1 hP hD hS 1 0 rfl rfl vp_1_2 dX7_begin_55 (fun H locs hP hD hS => ?_)
        have hP : va_P G.1 vwCl (wMo G ad o ((0, r.2).1, k2, w2, upd (upd ((0, r.2).2.2.2.1) (0 : Int32).toNatClampNeg 0) (1 : Int32).toNatClampNeg 0, (0, r.2).2.2.2.2.1, (0, r.2).2.2.2.2.2.1, (0, r.2).2.2.2.2.2.2.1, (0, r.2).2.2.2.2.2.2.2.1, (0, r.2).2.2.2.2.2.2.2.2.1, (0, r.2).2.2.2.2.2.2.2.2.2.1, (0, r.2).2.2.2.2.2.2.2.2.2.2.1, (0, r.2).2.2.2.2.2.2.2.2.2.2.2.1, (0, r.2).2.2.2.2.2.2.2.2.2.2.2.2)) H := hP
        have hD : va_D A (wMo G ad o ((0, r.2).1, k2, w2, upd (upd ((0, r.2).2.2.2.1) (0 : Int32).toNatClampNeg 0) (1 : Int32).toNatClampNeg 0, (0, r.2).2.2.2.2.1, (0, r.2).2.2.2.2.2.1, (0, r.2).2.2.2.2.2.2.1, (0, r.2).2.2.2.2.2.2.2.1, (0, r.2).2.2.2.2.2.2.2.2.1, (0, r.2).2.2.2.2.2.2.2.2.2.1, (0, r.2).2.2.2.2.2.2.2.2.2.2.1, (0, r.2).2.2.2.2.2.2.2.2.2.2.2.1, (0, r.2).2.2.2.2.2.2.2.2.2.2.2.2)) := hD
        exact wr_vret hx hb hr hlk hS hP (by first | with_reducible rfl | (simp only [sld_eq, h8_1, h18_2, eq_true h29_3, ↓reduceIte]; done)) dX7_begin_56

set_option maxHeartbeats 4000000 in
set_option maxRecDepth 100000 in
theorem kn_X7_begin (l : Launch) (G : GT) (ad : Nat → Nat) (o : Nat) (r : MoT) (k2 w2 : Int32) (hk : ¬ (okA k2 2 16 ∧ okA w2 1 64)) : Wr l yX7_begin wsX7_begin { frames := 1, cells := 0, slots := 0, locals := 22 } G (wMo G ad o r) (wMo G ad o (1, r.2)) [.ref (ad o), .int k2, .int w2] none := by
  intro sz
  refine Met.ofW (cc := cX7_begin) (maxL := 3) (ret := none) (by decide) rfl ?_
  intro p e s m args below meth c s₁ B hml hv
  obtain ⟨rfl, hsz, hP, hY, hD0⟩ := hv
  subst hsz
  have hD := hD0.self (sz := s.heap.size)
  generalize hAe : va_A (wMo G ad o r) s.heap.size = A at hD ⊢
  have hA : ∀ q : Nat, s.heap.size ≤ q → A q := fun q h => by rw [← hAe]; exact Or.inr h
  have hS : va_S A s.heap s.heap [] := va_S.rf
  have hx := B.exec
  have hb := B.bytes
  have hr := B.returns
  have hts := atoms_spec (ws := wsX7_begin) B.pre
  have hown : s.vm.findClass RX7 = some m.cls := findClass_of_methodNamed B.named
  have hlk := B.notSynchronized
  have CF : CallFix p m c cX7_begin 3 s _ wsX7_begin RX7 := ⟨hx, hb, hml, hown, hts⟩
  have hl := lv_entry ([.ref (ad o), .int k2, .int w2]) (n := 3) (Nat.le_of_ble_eq_true rfl)
  rw [lg_entry_eq]
  generalize (lg_sl ([.ref (ad o), .int k2, .int w2]) ++ List.replicate (3 - (lg_sl ([.ref (ad o), .int k2, .int w2])).length) Slot.unset).toArray = ls at hl ⊢
  have hl : lv_has ls 3 [(0, .ref (ad o)), (1, .int k2), (2, .int w2)] := hl
  refine lv_aload_n hx hb dX7_begin_0 rfl (lv_at hl 0 rfl) ?_
  refine lv_iload_n hx hb dX7_begin_1 rfl (lv_at hl 1 rfl) ?_
  refine lv_iconst (v := 2) hx hb dX7_begin_2 (by decide) ?_
  refine lv_bipush (v := 16) hx hb dX7_begin_3 (by decide) ?_
  by_cases q5_1 : okA k2 2 16
  · refine rdS (w0 := ([] : va_W)) (As := [.int k2, .int 2, .int 16]) (rest := [.ref (ad o)]) CF (k_X7_in l G k2 2 16 q5_1) (va_cwS 3 hts gX7_begin_X7_in rfl rfl rfl (by decide +kernel) ⟨Nat.le_of_ble_eq_true rfl, Nat.le_of_ble_eq_true rfl⟩) va_P_nil hY rfl hl.1 rfl (lv_room (Nat.le_of_ble_eq_true rfl)) dX7_begin_5 ⟨Nat.zero_le _, Nat.zero_le _⟩ ?_
    refine lv_if_eq (tgt := 25) hx hb dX7_begin_8 (by decide) (fun h8_2 => ?_) (fun h8_2 => ?_)
    · exact absurd h8_2 (by decide)
    · refine lv_iload_n hx hb dX7_begin_11 rfl (lv_at hl 2 rfl) ?_
      refine lv_iconst (v := 1) hx hb dX7_begin_12 (by decide) ?_
      refine lv_bipush (v := 64) hx hb dX7_begin_13 (by decide) ?_
      by_cases q15_3 : okA w2 1 64
      · refine rdS (w0 := ([] : va_W)) (As := [.int w2, .int 1, .int 64]) (rest := [.ref (ad o)]) CF (k_X7_in l G w2 1 64 q15_3) (va_cwS 3 hts gX7_begin_X7_in rfl rfl rfl (by decide +kernel) ⟨Nat.le_of_ble_eq_true rfl, Nat.le_of_ble_eq_true rfl⟩) va_P_nil hY rfl hl.1 rfl (lv_room (Nat.le_of_ble_eq_true rfl)) dX7_begin_15 ⟨Nat.zero_le _, Nat.zero_le _⟩ ?_
        refine lv_if_eq (tgt := 25) hx hb dX7_begin_18 (by decide) (fun h18_4 => ?_) (fun h18_4 => ?_)
        · exact absurd h18_4 (by decide)
        · exact absurd ⟨q5_1, q15_3⟩ hk
      · refine rdS (w0 := ([] : va_W)) (As := [.int w2, .int 1, .int 64]) (rest := [.ref (ad o)]) CF (kn_X7_in l G w2 1 64 q15_3) (va_cwS 3 hts gX7_begin_X7_in rfl rfl rfl (by decide +kernel) ⟨Nat.le_of_ble_eq_true rfl, Nat.le_of_ble_eq_true rfl⟩) va_P_nil hY rfl hl.1 rfl (lv_room (Nat.le_of_ble_eq_true rfl)) dX7_begin_15 ⟨Nat.zero_le _, Nat.zero_le _⟩ ?_
        refine lv_if_eq (tgt := 25) hx hb dX7_begin_18 (by decide) (fun h18_5 => ?_) (fun h18_5 => ?_)
        · refine lv_iconst (v := 1) hx hb dX7_begin_25 (by decide) ?_
          refine wrV [] (wMo G ad o r) [] (wMo G ad o (1, r.2)) (As := [.int 1]) (rest := []) CF (k1_X7_refused l G ad o r 1 (by decide)) (cwV 1 hts gX7_begin_X7_refused rfl rfl rfl (by decide +kernel) ⟨Nat.le_of_ble_eq_true rfl, Nat.le_of_ble_eq_true rfl⟩) hP hD hS hA hY rfl rfl (fst_Mo _ _ _ _ _) rfl hl.1 rfl (lv_room (Nat.le_of_ble_eq_true rfl)) dX7_begin_26 ⟨Nat.zero_le _, Nat.zero_le _⟩ (fun H locs hP hD hS => ?_)
          have hP : va_P G.1 vwCl (wMo G ad o (1, r.2)) H := hP
          have hD : va_D A (wMo G ad o (1, r.2)) := hD
          refine lv_if_ne (tgt := 56) hx hb dX7_begin_29 (by decide) (fun h29_6 => ?_) (fun h29_6 => ?_)
          · exact wr_vret hx hb hr hlk hS hP (by first | with_reducible rfl | (simp only [sld_eq, q5_1, h8_2, q15_3, eq_true h18_5, h29_6, ↓reduceIte]; done)) dX7_begin_56
          · exact absurd h29_6 (by decide)
        · exact absurd rfl h18_5
  · refine rdS (w0 := ([] : va_W)) (As := [.int k2, .int 2, .int 16]) (rest := [.ref (ad o)]) CF (kn_X7_in l G k2 2 16 q5_1) (va_cwS 3 hts gX7_begin_X7_in rfl rfl rfl (by decide +kernel) ⟨Nat.le_of_ble_eq_true rfl, Nat.le_of_ble_eq_true rfl⟩) va_P_nil hY rfl hl.1 rfl (lv_room (Nat.le_of_ble_eq_true rfl)) dX7_begin_5 ⟨Nat.zero_le _, Nat.zero_le _⟩ ?_
    refine lv_if_eq (tgt := 25) hx hb dX7_begin_8 (by decide) (fun h8_7 => ?_) (fun h8_7 => ?_)
    · refine lv_iconst (v := 1) hx hb dX7_begin_25 (by decide) ?_
      refine wrV [] (wMo G ad o r) [] (wMo G ad o (1, r.2)) (As := [.int 1]) (rest := []) CF (k1_X7_refused l G ad o r 1 (by decide)) (cwV 1 hts gX7_begin_X7_refused rfl rfl rfl (by decide +kernel) ⟨Nat.le_of_ble_eq_true rfl, Nat.le_of_ble_eq_true rfl⟩) hP hD hS hA hY rfl rfl (fst_Mo _ _ _ _ _) rfl hl.1 rfl (lv_room (Nat.le_of_ble_eq_true rfl)) dX7_begin_26 ⟨Nat.zero_le _, Nat.zero_le _⟩ (fun H locs hP hD hS => ?_)
      have hP : va_P G.1 vwCl (wMo G ad o (1, r.2)) H := hP
      have hD : va_D A (wMo G ad o (1, r.2)) := hD
      refine lv_if_ne (tgt := 56) hx hb dX7_begin_29 (by decide) (fun h29_8 => ?_) (fun h29_8 => ?_)
      · exact wr_vret hx hb hr hlk hS hP (by first | with_reducible rfl | (simp only [sld_eq, q5_1, eq_true h8_7, h29_8, ↓reduceIte]; done)) dX7_begin_56
      · exact absurd h29_8 (by decide)
    · exact absurd rfl h8_7

set_option maxHeartbeats 4000000 in
set_option maxRecDepth 100000 in
theorem k_X7_clear (l : Launch) (G : GT) (ad : Nat → Nat) (o : Nat) (r : MoT) (st : Int32) (h0 : okA st 0 1) : Wr l yX7_clear wsX7_clear { frames := 2, cells := 0, slots := 0, locals := 44 } G (wMo G ad o r) (wMo G ad o (0, r.2.1, r.2.2.1, upd r.2.2.2.1 st.toNatClampNeg 0, r.2.2.2.2)) [.ref (ad o), .int st] (some (.int (r.2.2.2.1 st.toNatClampNeg))) := by
  intro sz
  refine Met.ofW (cc := cX7_clear) (maxL := 3) (ret := (some .int)) (by decide) rfl ?_
  intro p e s m args below meth c s₁ B hml hv
  obtain ⟨rfl, hsz, hP, hY, hD0⟩ := hv
  subst hsz
  have hD := hD0.self (sz := s.heap.size)
  generalize hAe : va_A (wMo G ad o r) s.heap.size = A at hD ⊢
  have hA : ∀ q : Nat, s.heap.size ≤ q → A q := fun q h => by rw [← hAe]; exact Or.inr h
  have hS : va_S A s.heap s.heap [] := va_S.rf
  have hx := B.exec
  have hb := B.bytes
  have hr := B.returns
  have hts := atoms_spec (ws := wsX7_clear) B.pre
  have hown : s.vm.findClass RX7 = some m.cls := findClass_of_methodNamed B.named
  have hlk := B.notSynchronized
  have CF : CallFix p m c cX7_clear 3 s _ wsX7_clear RX7 := ⟨hx, hb, hml, hown, hts⟩
  have hiX7 : ∀ w ∈ wsX70, w ∈ wsX7_clear := fun w h => (List.mem_cons_of_mem _ (List.mem_append_right _ h))
  have kf16 := hts (.fieldLink RX7 16 "ReservoirReedModel" "many" "[I") (List.mem_cons_of_mem _ (List.mem_append_left _ (List.mem_of_getElem? (i := 0) rfl)))
  have hl := lv_entry ([.ref (ad o), .int st]) (n := 3) (Nat.le_of_ble_eq_true rfl)
  rw [lg_entry_eq]
  generalize (lg_sl ([.ref (ad o), .int st]) ++ List.replicate (3 - (lg_sl ([.ref (ad o), .int st])).length) Slot.unset).toArray = ls at hl ⊢
  have hl : lv_has ls 3 [(0, .ref (ad o)), (1, .int st)] := hl
  refine lv_aload_n hx hb dX7_clear_0 rfl (lv_at hl 0 rfl) ?_
  refine lv_iload_n hx hb dX7_clear_1 rfl (lv_at hl 1 rfl) ?_
  refine lv_iconst (v := 1) hx hb dX7_clear_2 (by decide) ?_
  refine wrV [] (wMo G ad o r) [] (wMo G ad o (0, r.2)) (As := [.int st, .int 1]) (rest := []) CF (k_X7_noStream l G ad o r st 1 h0) (cwV 2 hts gX7_clear_X7_noStream rfl rfl rfl (by decide +kernel) ⟨Nat.le_of_ble_eq_true rfl, Nat.le_of_ble_eq_true rfl⟩) hP hD hS hA hY rfl rfl (fst_Mo _ _ _ _ _) rfl hl.1 rfl (lv_room (Nat.le_of_ble_eq_true rfl)) dX7_clear_3 ⟨Nat.zero_le _, Nat.zero_le _⟩ (fun H locs hP hD hS => ?_)
  have hP : va_P G.1 vwCl (wMo G ad o (0, r.2)) H := hP
  have hD : va_D A (wMo G ad o (0, r.2)) := hD
  refine lv_if_eq (tgt := 11) hx hb dX7_clear_6 (by decide) (fun h6_1 => ?_) (fun h6_1 => ?_)
  · refine lv_aload_n hx hb dX7_clear_11 rfl (lv_at hl 0 rfl) ?_
    refine va_get (D := G.1) (ci := 7) (v := .ref (ad (o+1))) (C := RX7) (T := TX7) (N := 13) hx hb hts hiX7 hown hY.1 hP 0 rfl rfl 3 (by decide) kf16 (fun _ h9 => h9) rfl dX7_clear_12 ?_
    refine lv_iload_n hx hb dX7_clear_15 rfl (lv_at hl 1 rfl) ?_
    refine va_iald hx hb hY.1 hP 1 0 rfl rfl (vp_st1 h0) dX7_clear_16 ?_
    refine lv_istore_n (lv' := [(2, .int (((0, r.2).2.2.2.1) st.toNatClampNeg)), (0, .ref (ad o)), (1, .int st)]) hx hb dX7_clear_17 rfl hl (by decide) rfl (fun ls hl => ?_)
    refine lv_aload_n hx hb dX7_clear_18 rfl (lv_at hl 1 rfl) ?_
    refine va_get (D := G.1) (ci := 7) (v := .ref (ad (o+1))) (C := RX7) (T := TX7) (N := 13) hx hb hts hiX7 hown hY.1 hP 0 rfl rfl 3 (by decide) kf16 (fun _ h9 => h9) rfl dX7_clear_19 ?_
    refine lv_iload_n hx hb dX7_clear_22 rfl (lv_at hl 2 rfl) ?_
    refine lv_iconst (v := 0) hx hb dX7_clear_23 (by decide) ?_
    refine va_iast hx hb hY.1 hP hD hS 1 0 rfl rfl (vp_st1 h0) dX7_clear_24 (fun H locs hP hD hS => ?_)
    have hP : va_P G.1 vwCl (wMo G ad o ((0, r.2).1, (0, r.2).2.1, (0, r.2).2.2.1, upd ((0, r.2).2.2.2.1) st.toNatClampNeg 0, (0, r.2).2.2.2.2.1, (0, r.2).2.2.2.2.2.1, (0, r.2).2.2.2.2.2.2.1, (0, r.2).2.2.2.2.2.2.2.1, (0, r.2).2.2.2.2.2.2.2.2.1, (0, r.2).2.2.2.2.2.2.2.2.2.1, (0, r.2).2.2.2.2.2.2.2.2.2.2.1, (0, r.2).2.2.2.2.2.2.2.2.2.2.2.1, (0, r.2).2.2.2.2.2.2.2.2.2.2.2.2)) H := hP
    have hD : va_D A (wMo G ad o ((0, r.2).1, (0, r.2).2.1, (0, r.2).2.2.1, upd ((0, r.2).2.2.2.1) st.toNatClampNeg 0, (0, r.2).2.2.2.2.1, (0, r.2).2.2.2.2.2.1, (0, r.2).2.2.2.2.2.2.1, (0, r.2).2.2.2.2.2.2.2.1, (0, r.2).2.2.2.2.2.2.2.2.1, (0, r.2).2.2.2.2.2.2.2.2.2.1, (0, r.2).2.2.2.2.2.2.2.2.2.2.1, (0, r.2).2.2.2.2.2.2.2.2.2.2.2.1, (0, r.2).2.2.2.2.2.2.2.2.2.2.2.2)) := hD
    refine lv_iload_n hx hb dX7_clear_25 rfl (lv_at hl 0 rfl) ?_
    exact wr_iret hx hb hr hlk hS hP (by first | with_reducible rfl | (simp only [sld_eq, eq_true h6_1, ↓reduceIte]; done)) (by first | with_reducible rfl | (simp only [sld_eq, eq_true h6_1, ↓reduceIte]; done)) dX7_clear_26
  · exact absurd rfl h6_1

set_option maxHeartbeats 4000000 in
set_option maxRecDepth 100000 in
theorem kn_X7_clear (l : Launch) (G : GT) (ad : Nat → Nat) (o : Nat) (r : MoT) (st : Int32) (hk : ¬ (okA st 0 1)) : Wr l yX7_clear wsX7_clear { frames := 2, cells := 0, slots := 0, locals := 44 } G (wMo G ad o r) (wMo G ad o (1, r.2)) [.ref (ad o), .int st] (some (.int 0)) := by
  intro sz
  refine Met.ofW (cc := cX7_clear) (maxL := 3) (ret := (some .int)) (by decide) rfl ?_
  intro p e s m args below meth c s₁ B hml hv
  obtain ⟨rfl, hsz, hP, hY, hD0⟩ := hv
  subst hsz
  have hD := hD0.self (sz := s.heap.size)
  generalize hAe : va_A (wMo G ad o r) s.heap.size = A at hD ⊢
  have hA : ∀ q : Nat, s.heap.size ≤ q → A q := fun q h => by rw [← hAe]; exact Or.inr h
  have hS : va_S A s.heap s.heap [] := va_S.rf
  have hx := B.exec
  have hb := B.bytes
  have hr := B.returns
  have hts := atoms_spec (ws := wsX7_clear) B.pre
  have hown : s.vm.findClass RX7 = some m.cls := findClass_of_methodNamed B.named
  have hlk := B.notSynchronized
  have CF : CallFix p m c cX7_clear 3 s _ wsX7_clear RX7 := ⟨hx, hb, hml, hown, hts⟩
  have hl := lv_entry ([.ref (ad o), .int st]) (n := 3) (Nat.le_of_ble_eq_true rfl)
  rw [lg_entry_eq]
  generalize (lg_sl ([.ref (ad o), .int st]) ++ List.replicate (3 - (lg_sl ([.ref (ad o), .int st])).length) Slot.unset).toArray = ls at hl ⊢
  have hl : lv_has ls 3 [(0, .ref (ad o)), (1, .int st)] := hl
  refine lv_aload_n hx hb dX7_clear_0 rfl (lv_at hl 0 rfl) ?_
  refine lv_iload_n hx hb dX7_clear_1 rfl (lv_at hl 1 rfl) ?_
  refine lv_iconst (v := 1) hx hb dX7_clear_2 (by decide) ?_
  refine wrV [] (wMo G ad o r) [] (wMo G ad o (1, r.2)) (As := [.int st, .int 1]) (rest := []) CF (kn_X7_noStream l G ad o r st 1 hk) (cwV 2 hts gX7_clear_X7_noStream rfl rfl rfl (by decide +kernel) ⟨Nat.le_of_ble_eq_true rfl, Nat.le_of_ble_eq_true rfl⟩) hP hD hS hA hY rfl rfl (fst_Mo _ _ _ _ _) rfl hl.1 rfl (lv_room (Nat.le_of_ble_eq_true rfl)) dX7_clear_3 ⟨Nat.zero_le _, Nat.zero_le _⟩ (fun H locs hP hD hS => ?_)
  have hP : va_P G.1 vwCl (wMo G ad o (1, r.2)) H := hP
  have hD : va_D A (wMo G ad o (1, r.2)) := hD
  refine lv_if_eq (tgt := 11) hx hb dX7_clear_6 (by decide) (fun h6_1 => ?_) (fun h6_1 => ?_)
  · exact absurd h6_1 (by decide)
  · refine lv_iconst (v := 0) hx hb dX7_clear_9 (by decide) ?_
    exact wr_iret hx hb hr hlk hS hP (by first | with_reducible rfl | (simp only [sld_eq, h6_1, ↓reduceIte]; done)) (by first | with_reducible rfl | (simp only [sld_eq, h6_1, ↓reduceIte]; done)) dX7_clear_10

set_option maxHeartbeats 4000000 in
set_option maxRecDepth 100000 in
theorem k_X7_offers (l : Launch) (G : GT) (ad : Nat → Nat) (o : Nat) (r : MoT) (st : Int32) (h0 : okA st 0 2) : Wr l yX7_offers wsX7_offers { frames := 2, cells := 0, slots := 0, locals := 44 } G (wMo G ad o r) (wMo G ad o (0, r.2)) [.ref (ad o), .int st] (some (.int (mAll r.2.2.2.1 st))) := by
  intro sz
  refine Met.ofW (cc := cX7_offers) (maxL := 2) (ret := (some .int)) (by decide) rfl ?_
  intro p e s m args below meth c s₁ B hml hv
  obtain ⟨rfl, hsz, hP, hY, hD0⟩ := hv
  subst hsz
  have hD := hD0.self (sz := s.heap.size)
  generalize hAe : va_A (wMo G ad o r) s.heap.size = A at hD ⊢
  have hA : ∀ q : Nat, s.heap.size ≤ q → A q := fun q h => by rw [← hAe]; exact Or.inr h
  have hS : va_S A s.heap s.heap [] := va_S.rf
  have hx := B.exec
  have hb := B.bytes
  have hr := B.returns
  have hts := atoms_spec (ws := wsX7_offers) B.pre
  have hown : s.vm.findClass RX7 = some m.cls := findClass_of_methodNamed B.named
  have hlk := B.notSynchronized
  have CF : CallFix p m c cX7_offers 2 s _ wsX7_offers RX7 := ⟨hx, hb, hml, hown, hts⟩
  have hiX7 : ∀ w ∈ wsX70, w ∈ wsX7_offers := fun w h => (List.mem_cons_of_mem _ (List.mem_append_right _ h))
  have kf16 := hts (.fieldLink RX7 16 "ReservoirReedModel" "many" "[I") (List.mem_cons_of_mem _ (List.mem_append_left _ (List.mem_of_getElem? (i := 0) rfl)))
  have hl := lv_entry ([.ref (ad o), .int st]) (n := 2) (Nat.le_of_ble_eq_true rfl)
  rw [lg_entry_eq]
  generalize (lg_sl ([.ref (ad o), .int st]) ++ List.replicate (2 - (lg_sl ([.ref (ad o), .int st])).length) Slot.unset).toArray = ls at hl ⊢
  have hl : lv_has ls 2 [(0, .ref (ad o)), (1, .int st)] := hl
  refine lv_aload_n hx hb dX7_offers_0 rfl (lv_at hl 0 rfl) ?_
  refine lv_iload_n hx hb dX7_offers_1 rfl (lv_at hl 1 rfl) ?_
  refine lv_iconst (v := 2) hx hb dX7_offers_2 (by decide) ?_
  refine wrV [] (wMo G ad o r) [] (wMo G ad o (0, r.2)) (As := [.int st, .int 2]) (rest := []) CF (k_X7_noStream l G ad o r st 2 h0) (cwV 2 hts gX7_offers_X7_noStream rfl rfl rfl (by decide +kernel) ⟨Nat.le_of_ble_eq_true rfl, Nat.le_of_ble_eq_true rfl⟩) hP hD hS hA hY rfl rfl (fst_Mo _ _ _ _ _) rfl hl.1 rfl (lv_room (Nat.le_of_ble_eq_true rfl)) dX7_offers_3 ⟨Nat.zero_le _, Nat.zero_le _⟩ (fun H locs hP hD hS => ?_)
  have hP : va_P G.1 vwCl (wMo G ad o (0, r.2)) H := hP
  have hD : va_D A (wMo G ad o (0, r.2)) := hD
  refine lv_if_eq (tgt := 13) hx hb dX7_offers_6 (by decide) (fun h6_1 => ?_) (fun h6_1 => ?_)
  · refine lv_iload_n hx hb dX7_offers_13 rfl (lv_at hl 1 rfl) ?_
    refine lv_iconst (v := 2) hx hb dX7_offers_14 (by decide) ?_
    refine lv_icmp_ne (tgt := 34) hx hb dX7_offers_15 (by decide) (fun h15_2 => ?_) (fun h15_2 => ?_)
    · refine lv_aload_n hx hb dX7_offers_34 rfl (lv_at hl 0 rfl) ?_
      refine va_get (D := G.1) (ci := 7) (v := .ref (ad (o+1))) (C := RX7) (T := TX7) (N := 13) hx hb hts hiX7 hown hY.1 hP 0 rfl rfl 3 (by decide) kf16 (fun _ h9 => h9) rfl dX7_offers_35 ?_
      refine lv_iload_n hx hb dX7_offers_38 rfl (lv_at hl 1 rfl) ?_
      refine va_iald hx hb hY.1 hP 1 0 rfl rfl (vp_st2 h0 h15_2) dX7_offers_39 ?_
      exact wr_iret hx hb hr hlk hS hP (by first | with_reducible rfl | (simp only [mAll, sld_eq, eq_true h6_1, h15_2, ↓reduceIte]; done)) (by first | with_reducible rfl | (simp only [mAll, sld_eq, eq_true h6_1, h15_2, ↓reduceIte]; done)) dX7_offers_40
    · refine lv_aload_n hx hb dX7_offers_18 rfl (lv_at hl 0 rfl) ?_
      refine va_get (D := G.1) (ci := 7) (v := .ref (ad (o+1))) (C := RX7) (T := TX7) (N := 13) hx hb hts hiX7 hown hY.1 hP 0 rfl rfl 3 (by decide) kf16 (fun _ h9 => h9) rfl dX7_offers_19 ?_
      refine lv_iconst (v := 0) hx hb dX7_offers_22 (by decide) ?_
      refine va_iald hx hb hY.1 hP 1 0 rfl rfl vp_0_2 dX7_offers_23 ?_
      refine lv_aload_n hx hb dX7_offers_24 rfl (lv_at hl 0 rfl) ?_
      refine va_get (D := G.1) (ci := 7) (v := .ref (ad (o+1))) (C := RX7) (T := TX7) (N := 13) hx hb hts hiX7 hown hY.1 hP 0 rfl rfl 3 (by decide) kf16 (fun _ h9 => h9) rfl dX7_offers_25 ?_
      refine lv_iconst (v := 1) hx hb dX7_offers_28 (by decide) ?_
      refine va_iald hx hb hY.1 hP 1 0 rfl rfl vp_1_2 dX7_offers_29 ?_
      refine lv_iadd hx hb dX7_offers_30 ?_
      refine lv_goto (tgt := 40) hx hb dX7_offers_31 (by decide) ?_
      exact wr_iret hx hb hr hlk hS hP (by first | with_reducible rfl | (simp only [mAll, sld_eq, eq_true h6_1, eq_true h15_2, ↓reduceIte]; done)) (by first | with_reducible rfl | (simp only [mAll, sld_eq, eq_true h6_1, eq_true h15_2, ↓reduceIte]; done)) dX7_offers_40
  · exact absurd rfl h6_1

set_option maxHeartbeats 4000000 in
set_option maxRecDepth 100000 in
theorem kn_X7_offers (l : Launch) (G : GT) (ad : Nat → Nat) (o : Nat) (r : MoT) (st : Int32) (hk : ¬ (okA st 0 2)) : Wr l yX7_offers wsX7_offers { frames := 2, cells := 0, slots := 0, locals := 44 } G (wMo G ad o r) (wMo G ad o (1, r.2)) [.ref (ad o), .int st] (some (.int 0)) := by
  intro sz
  refine Met.ofW (cc := cX7_offers) (maxL := 2) (ret := (some .int)) (by decide) rfl ?_
  intro p e s m args below meth c s₁ B hml hv
  obtain ⟨rfl, hsz, hP, hY, hD0⟩ := hv
  subst hsz
  have hD := hD0.self (sz := s.heap.size)
  generalize hAe : va_A (wMo G ad o r) s.heap.size = A at hD ⊢
  have hA : ∀ q : Nat, s.heap.size ≤ q → A q := fun q h => by rw [← hAe]; exact Or.inr h
  have hS : va_S A s.heap s.heap [] := va_S.rf
  have hx := B.exec
  have hb := B.bytes
  have hr := B.returns
  have hts := atoms_spec (ws := wsX7_offers) B.pre
  have hown : s.vm.findClass RX7 = some m.cls := findClass_of_methodNamed B.named
  have hlk := B.notSynchronized
  have CF : CallFix p m c cX7_offers 2 s _ wsX7_offers RX7 := ⟨hx, hb, hml, hown, hts⟩
  have hl := lv_entry ([.ref (ad o), .int st]) (n := 2) (Nat.le_of_ble_eq_true rfl)
  rw [lg_entry_eq]
  generalize (lg_sl ([.ref (ad o), .int st]) ++ List.replicate (2 - (lg_sl ([.ref (ad o), .int st])).length) Slot.unset).toArray = ls at hl ⊢
  have hl : lv_has ls 2 [(0, .ref (ad o)), (1, .int st)] := hl
  refine lv_aload_n hx hb dX7_offers_0 rfl (lv_at hl 0 rfl) ?_
  refine lv_iload_n hx hb dX7_offers_1 rfl (lv_at hl 1 rfl) ?_
  refine lv_iconst (v := 2) hx hb dX7_offers_2 (by decide) ?_
  refine wrV [] (wMo G ad o r) [] (wMo G ad o (1, r.2)) (As := [.int st, .int 2]) (rest := []) CF (kn_X7_noStream l G ad o r st 2 hk) (cwV 2 hts gX7_offers_X7_noStream rfl rfl rfl (by decide +kernel) ⟨Nat.le_of_ble_eq_true rfl, Nat.le_of_ble_eq_true rfl⟩) hP hD hS hA hY rfl rfl (fst_Mo _ _ _ _ _) rfl hl.1 rfl (lv_room (Nat.le_of_ble_eq_true rfl)) dX7_offers_3 ⟨Nat.zero_le _, Nat.zero_le _⟩ (fun H locs hP hD hS => ?_)
  have hP : va_P G.1 vwCl (wMo G ad o (1, r.2)) H := hP
  have hD : va_D A (wMo G ad o (1, r.2)) := hD
  refine lv_if_eq (tgt := 13) hx hb dX7_offers_6 (by decide) (fun h6_1 => ?_) (fun h6_1 => ?_)
  · exact absurd h6_1 (by decide)
  · refine lv_iconst (v := 0) hx hb dX7_offers_9 (by decide) ?_
    refine lv_goto (tgt := 40) hx hb dX7_offers_10 (by decide) ?_
    exact wr_iret hx hb hr hlk hS hP (by first | with_reducible rfl | (simp only [sld_eq, h6_1, ↓reduceIte]; done)) (by first | with_reducible rfl | (simp only [sld_eq, h6_1, ↓reduceIte]; done)) dX7_offers_40

set_option maxHeartbeats 4000000 in
set_option maxRecDepth 100000 in
theorem k_X7_reservoirSize (l : Launch) (G : GT) (ad : Nat → Nat) (o : Nat) (r : MoT) (st : Int32) (h0 : okA st 0 1) : Wr l yX7_reservoirSize wsX7_reservoirSize { frames := 2, cells := 0, slots := 0, locals := 44 } G (wMo G ad o r) (wMo G ad o (0, r.2)) [.ref (ad o), .int st] (some (.int (if r.2.1 ≤ r.2.2.2.1 st.toNatClampNeg then r.2.1 else r.2.2.2.1 st.toNatClampNeg))) := by
  intro sz
  refine Met.ofW (cc := cX7_reservoirSize) (maxL := 2) (ret := (some .int)) (by decide) rfl ?_
  intro p e s m args below meth c s₁ B hml hv
  obtain ⟨rfl, hsz, hP, hY, hD0⟩ := hv
  subst hsz
  have hD := hD0.self (sz := s.heap.size)
  generalize hAe : va_A (wMo G ad o r) s.heap.size = A at hD ⊢
  have hA : ∀ q : Nat, s.heap.size ≤ q → A q := fun q h => by rw [← hAe]; exact Or.inr h
  have hS : va_S A s.heap s.heap [] := va_S.rf
  have hx := B.exec
  have hb := B.bytes
  have hr := B.returns
  have hts := atoms_spec (ws := wsX7_reservoirSize) B.pre
  have hown : s.vm.findClass RX7 = some m.cls := findClass_of_methodNamed B.named
  have hlk := B.notSynchronized
  have CF : CallFix p m c cX7_reservoirSize 2 s _ wsX7_reservoirSize RX7 := ⟨hx, hb, hml, hown, hts⟩
  have hiX7 : ∀ w ∈ wsX70, w ∈ wsX7_reservoirSize := fun w h => (List.mem_cons_of_mem _ (List.mem_append_right _ h))
  have kf16 := hts (.fieldLink RX7 16 "ReservoirReedModel" "many" "[I") (List.mem_cons_of_mem _ (List.mem_append_left _ (List.mem_of_getElem? (i := 0) rfl)))
  have kf7 := hts (.fieldLink RX7 7 "ReservoirReedModel" "size" "I") (List.mem_cons_of_mem _ (List.mem_append_left _ (List.mem_of_getElem? (i := 1) rfl)))
  have hl := lv_entry ([.ref (ad o), .int st]) (n := 2) (Nat.le_of_ble_eq_true rfl)
  rw [lg_entry_eq]
  generalize (lg_sl ([.ref (ad o), .int st]) ++ List.replicate (2 - (lg_sl ([.ref (ad o), .int st])).length) Slot.unset).toArray = ls at hl ⊢
  have hl : lv_has ls 2 [(0, .ref (ad o)), (1, .int st)] := hl
  refine lv_aload_n hx hb dX7_reservoirSize_0 rfl (lv_at hl 0 rfl) ?_
  refine lv_iload_n hx hb dX7_reservoirSize_1 rfl (lv_at hl 1 rfl) ?_
  refine lv_iconst (v := 1) hx hb dX7_reservoirSize_2 (by decide) ?_
  refine wrV [] (wMo G ad o r) [] (wMo G ad o (0, r.2)) (As := [.int st, .int 1]) (rest := []) CF (k_X7_noStream l G ad o r st 1 h0) (cwV 2 hts gX7_reservoirSize_X7_noStream rfl rfl rfl (by decide +kernel) ⟨Nat.le_of_ble_eq_true rfl, Nat.le_of_ble_eq_true rfl⟩) hP hD hS hA hY rfl rfl (fst_Mo _ _ _ _ _) rfl hl.1 rfl (lv_room (Nat.le_of_ble_eq_true rfl)) dX7_reservoirSize_3 ⟨Nat.zero_le _, Nat.zero_le _⟩ (fun H locs hP hD hS => ?_)
  have hP : va_P G.1 vwCl (wMo G ad o (0, r.2)) H := hP
  have hD : va_D A (wMo G ad o (0, r.2)) := hD
  refine lv_if_eq (tgt := 13) hx hb dX7_reservoirSize_6 (by decide) (fun h6_1 => ?_) (fun h6_1 => ?_)
  · refine lv_aload_n hx hb dX7_reservoirSize_13 rfl (lv_at hl 0 rfl) ?_
    refine va_get (D := G.1) (ci := 7) (v := .ref (ad (o+1))) (C := RX7) (T := TX7) (N := 13) hx hb hts hiX7 hown hY.1 hP 0 rfl rfl 3 (by decide) kf16 (fun _ h9 => h9) rfl dX7_reservoirSize_14 ?_
    refine lv_iload_n hx hb dX7_reservoirSize_17 rfl (lv_at hl 1 rfl) ?_
    refine va_iald hx hb hY.1 hP 1 0 rfl rfl (vp_st1 h0) dX7_reservoirSize_18 ?_
    refine lv_aload_n hx hb dX7_reservoirSize_19 rfl (lv_at hl 0 rfl) ?_
    refine va_get (D := G.1) (ci := 7) (v := .int ((0, r.2).2.1)) (C := RX7) (T := TX7) (N := 13) hx hb hts hiX7 hown hY.1 hP 0 rfl rfl 1 (by decide) kf7 (fun _ h9 => h9) rfl dX7_reservoirSize_20 ?_
    refine lv_icmp_ge (tgt := 35) hx hb dX7_reservoirSize_23 (by decide) (fun h23_2 => ?_) (fun h23_2 => ?_)
    · refine lv_aload_n hx hb dX7_reservoirSize_35 rfl (lv_at hl 0 rfl) ?_
      refine va_get (D := G.1) (ci := 7) (v := .int ((0, r.2).2.1)) (C := RX7) (T := TX7) (N := 13) hx hb hts hiX7 hown hY.1 hP 0 rfl rfl 1 (by decide) kf7 (fun _ h9 => h9) rfl dX7_reservoirSize_36 ?_
      exact wr_iret hx hb hr hlk hS hP (by first | with_reducible rfl | (simp only [sld_eq, eq_true h6_1, h23_2, ↓reduceIte]; done)) (by first | with_reducible rfl | (simp only [sld_eq, eq_true h6_1, h23_2, ↓reduceIte]; done)) dX7_reservoirSize_39
    · refine lv_aload_n hx hb dX7_reservoirSize_26 rfl (lv_at hl 0 rfl) ?_
      refine va_get (D := G.1) (ci := 7) (v := .ref (ad (o+1))) (C := RX7) (T := TX7) (N := 13) hx hb hts hiX7 hown hY.1 hP 0 rfl rfl 3 (by decide) kf16 (fun _ h9 => h9) rfl dX7_reservoirSize_27 ?_
      refine lv_iload_n hx hb dX7_reservoirSize_30 rfl (lv_at hl 1 rfl) ?_
      refine va_iald hx hb hY.1 hP 1 0 rfl rfl (vp_st1 h0) dX7_reservoirSize_31 ?_
      refine lv_goto (tgt := 39) hx hb dX7_reservoirSize_32 (by decide) ?_
      exact wr_iret hx hb hr hlk hS hP (by first | with_reducible rfl | (simp only [sld_eq, eq_true h6_1, h23_2, ↓reduceIte]; done)) (by first | with_reducible rfl | (simp only [sld_eq, eq_true h6_1, h23_2, ↓reduceIte]; done)) dX7_reservoirSize_39
  · exact absurd rfl h6_1

set_option maxHeartbeats 4000000 in
set_option maxRecDepth 100000 in
theorem kn_X7_reservoirSize (l : Launch) (G : GT) (ad : Nat → Nat) (o : Nat) (r : MoT) (st : Int32) (hk : ¬ (okA st 0 1)) : Wr l yX7_reservoirSize wsX7_reservoirSize { frames := 2, cells := 0, slots := 0, locals := 44 } G (wMo G ad o r) (wMo G ad o (1, r.2)) [.ref (ad o), .int st] (some (.int 0)) := by
  intro sz
  refine Met.ofW (cc := cX7_reservoirSize) (maxL := 2) (ret := (some .int)) (by decide) rfl ?_
  intro p e s m args below meth c s₁ B hml hv
  obtain ⟨rfl, hsz, hP, hY, hD0⟩ := hv
  subst hsz
  have hD := hD0.self (sz := s.heap.size)
  generalize hAe : va_A (wMo G ad o r) s.heap.size = A at hD ⊢
  have hA : ∀ q : Nat, s.heap.size ≤ q → A q := fun q h => by rw [← hAe]; exact Or.inr h
  have hS : va_S A s.heap s.heap [] := va_S.rf
  have hx := B.exec
  have hb := B.bytes
  have hr := B.returns
  have hts := atoms_spec (ws := wsX7_reservoirSize) B.pre
  have hown : s.vm.findClass RX7 = some m.cls := findClass_of_methodNamed B.named
  have hlk := B.notSynchronized
  have CF : CallFix p m c cX7_reservoirSize 2 s _ wsX7_reservoirSize RX7 := ⟨hx, hb, hml, hown, hts⟩
  have hl := lv_entry ([.ref (ad o), .int st]) (n := 2) (Nat.le_of_ble_eq_true rfl)
  rw [lg_entry_eq]
  generalize (lg_sl ([.ref (ad o), .int st]) ++ List.replicate (2 - (lg_sl ([.ref (ad o), .int st])).length) Slot.unset).toArray = ls at hl ⊢
  have hl : lv_has ls 2 [(0, .ref (ad o)), (1, .int st)] := hl
  refine lv_aload_n hx hb dX7_reservoirSize_0 rfl (lv_at hl 0 rfl) ?_
  refine lv_iload_n hx hb dX7_reservoirSize_1 rfl (lv_at hl 1 rfl) ?_
  refine lv_iconst (v := 1) hx hb dX7_reservoirSize_2 (by decide) ?_
  refine wrV [] (wMo G ad o r) [] (wMo G ad o (1, r.2)) (As := [.int st, .int 1]) (rest := []) CF (kn_X7_noStream l G ad o r st 1 hk) (cwV 2 hts gX7_reservoirSize_X7_noStream rfl rfl rfl (by decide +kernel) ⟨Nat.le_of_ble_eq_true rfl, Nat.le_of_ble_eq_true rfl⟩) hP hD hS hA hY rfl rfl (fst_Mo _ _ _ _ _) rfl hl.1 rfl (lv_room (Nat.le_of_ble_eq_true rfl)) dX7_reservoirSize_3 ⟨Nat.zero_le _, Nat.zero_le _⟩ (fun H locs hP hD hS => ?_)
  have hP : va_P G.1 vwCl (wMo G ad o (1, r.2)) H := hP
  have hD : va_D A (wMo G ad o (1, r.2)) := hD
  refine lv_if_eq (tgt := 13) hx hb dX7_reservoirSize_6 (by decide) (fun h6_1 => ?_) (fun h6_1 => ?_)
  · exact absurd h6_1 (by decide)
  · refine lv_iconst (v := 0) hx hb dX7_reservoirSize_9 (by decide) ?_
    refine lv_goto (tgt := 39) hx hb dX7_reservoirSize_10 (by decide) ?_
    exact wr_iret hx hb hr hlk hS hP (by first | with_reducible rfl | (simp only [sld_eq, h6_1, ↓reduceIte]; done)) (by first | with_reducible rfl | (simp only [sld_eq, h6_1, ↓reduceIte]; done)) dX7_reservoirSize_39

set_option maxHeartbeats 4000000 in
set_option maxRecDepth 100000 in
theorem k_X7_prioritySize (l : Launch) (G : GT) (ad : Nat → Nat) (o : Nat) (r : MoT) (st : Int32) (h0 : okA st 0 2) : Wr l yX7_prioritySize wsX7_prioritySize { frames := 2, cells := 0, slots := 0, locals := 44 } G (wMo G ad o r) (wMo G ad o (0, r.2)) [.ref (ad o), .int st] (some (.int (mSam r.2.2.2.1 r.2.1 st))) := by
  intro sz
  refine Met.ofW (cc := cX7_prioritySize) (maxL := 2) (ret := (some .int)) (by decide) rfl ?_
  intro p e s m args below meth c s₁ B hml hv
  obtain ⟨rfl, hsz, hP, hY, hD0⟩ := hv
  subst hsz
  have hD := hD0.self (sz := s.heap.size)
  generalize hAe : va_A (wMo G ad o r) s.heap.size = A at hD ⊢
  have hA : ∀ q : Nat, s.heap.size ≤ q → A q := fun q h => by rw [← hAe]; exact Or.inr h
  have hS : va_S A s.heap s.heap [] := va_S.rf
  have hx := B.exec
  have hb := B.bytes
  have hr := B.returns
  have hts := atoms_spec (ws := wsX7_prioritySize) B.pre
  have hown : s.vm.findClass RX7 = some m.cls := findClass_of_methodNamed B.named
  have hlk := B.notSynchronized
  have CF : CallFix p m c cX7_prioritySize 2 s _ wsX7_prioritySize RX7 := ⟨hx, hb, hml, hown, hts⟩
  have hl := lv_entry ([.ref (ad o), .int st]) (n := 2) (Nat.le_of_ble_eq_true rfl)
  rw [lg_entry_eq]
  generalize (lg_sl ([.ref (ad o), .int st]) ++ List.replicate (2 - (lg_sl ([.ref (ad o), .int st])).length) Slot.unset).toArray = ls at hl ⊢
  have hl : lv_has ls 2 [(0, .ref (ad o)), (1, .int st)] := hl
  refine lv_aload_n hx hb dX7_prioritySize_0 rfl (lv_at hl 0 rfl) ?_
  refine lv_iload_n hx hb dX7_prioritySize_1 rfl (lv_at hl 1 rfl) ?_
  refine lv_iconst (v := 2) hx hb dX7_prioritySize_2 (by decide) ?_
  refine wrV [] (wMo G ad o r) [] (wMo G ad o (0, r.2)) (As := [.int st, .int 2]) (rest := []) CF (k_X7_noStream l G ad o r st 2 h0) (cwV 2 hts gX7_prioritySize_X7_noStream rfl rfl rfl (by decide +kernel) ⟨Nat.le_of_ble_eq_true rfl, Nat.le_of_ble_eq_true rfl⟩) hP hD hS hA hY rfl rfl (fst_Mo _ _ _ _ _) rfl hl.1 rfl (lv_room (Nat.le_of_ble_eq_true rfl)) dX7_prioritySize_3 ⟨Nat.zero_le _, Nat.zero_le _⟩ (fun H locs hP hD hS => ?_)
  have hP : va_P G.1 vwCl (wMo G ad o (0, r.2)) H := hP
  have hD : va_D A (wMo G ad o (0, r.2)) := hD
  refine lv_if_eq (tgt := 13) hx hb dX7_prioritySize_6 (by decide) (fun h6_1 => ?_) (fun h6_1 => ?_)
  · refine lv_aload_n hx hb dX7_prioritySize_13 rfl (lv_at hl 0 rfl) ?_
    refine lv_iload_n hx hb dX7_prioritySize_14 rfl (lv_at hl 1 rfl) ?_
    refine rdV (w0 := (wMo G ad o (0, r.2))) (As := [.int st]) (rest := []) CF (k_X7_sampled l G ad o (0, r.2) st h0) (cwV 1 hts gX7_prioritySize_X7_sampled rfl rfl rfl (by decide +kernel) ⟨Nat.le_of_ble_eq_true rfl, Nat.le_of_ble_eq_true rfl⟩) hP hY rfl rfl rfl hl.1 rfl (lv_room (Nat.le_of_ble_eq_true rfl)) dX7_prioritySize_15 ⟨Nat.zero_le _, Nat.zero_le _⟩ ?_
    exact wr_iret hx hb hr hlk hS hP (by first | with_reducible rfl | (simp only [sld_eq, eq_true h6_1, ↓reduceIte]; done)) (by first | with_reducible rfl | (simp only [sld_eq, eq_true h6_1, ↓reduceIte]; done)) dX7_prioritySize_18
  · exact absurd rfl h6_1

set_option maxHeartbeats 4000000 in
set_option maxRecDepth 100000 in
theorem kn_X7_prioritySize (l : Launch) (G : GT) (ad : Nat → Nat) (o : Nat) (r : MoT) (st : Int32) (hk : ¬ (okA st 0 2)) : Wr l yX7_prioritySize wsX7_prioritySize { frames := 2, cells := 0, slots := 0, locals := 44 } G (wMo G ad o r) (wMo G ad o (1, r.2)) [.ref (ad o), .int st] (some (.int 0)) := by
  intro sz
  refine Met.ofW (cc := cX7_prioritySize) (maxL := 2) (ret := (some .int)) (by decide) rfl ?_
  intro p e s m args below meth c s₁ B hml hv
  obtain ⟨rfl, hsz, hP, hY, hD0⟩ := hv
  subst hsz
  have hD := hD0.self (sz := s.heap.size)
  generalize hAe : va_A (wMo G ad o r) s.heap.size = A at hD ⊢
  have hA : ∀ q : Nat, s.heap.size ≤ q → A q := fun q h => by rw [← hAe]; exact Or.inr h
  have hS : va_S A s.heap s.heap [] := va_S.rf
  have hx := B.exec
  have hb := B.bytes
  have hr := B.returns
  have hts := atoms_spec (ws := wsX7_prioritySize) B.pre
  have hown : s.vm.findClass RX7 = some m.cls := findClass_of_methodNamed B.named
  have hlk := B.notSynchronized
  have CF : CallFix p m c cX7_prioritySize 2 s _ wsX7_prioritySize RX7 := ⟨hx, hb, hml, hown, hts⟩
  have hl := lv_entry ([.ref (ad o), .int st]) (n := 2) (Nat.le_of_ble_eq_true rfl)
  rw [lg_entry_eq]
  generalize (lg_sl ([.ref (ad o), .int st]) ++ List.replicate (2 - (lg_sl ([.ref (ad o), .int st])).length) Slot.unset).toArray = ls at hl ⊢
  have hl : lv_has ls 2 [(0, .ref (ad o)), (1, .int st)] := hl
  refine lv_aload_n hx hb dX7_prioritySize_0 rfl (lv_at hl 0 rfl) ?_
  refine lv_iload_n hx hb dX7_prioritySize_1 rfl (lv_at hl 1 rfl) ?_
  refine lv_iconst (v := 2) hx hb dX7_prioritySize_2 (by decide) ?_
  refine wrV [] (wMo G ad o r) [] (wMo G ad o (1, r.2)) (As := [.int st, .int 2]) (rest := []) CF (kn_X7_noStream l G ad o r st 2 hk) (cwV 2 hts gX7_prioritySize_X7_noStream rfl rfl rfl (by decide +kernel) ⟨Nat.le_of_ble_eq_true rfl, Nat.le_of_ble_eq_true rfl⟩) hP hD hS hA hY rfl rfl (fst_Mo _ _ _ _ _) rfl hl.1 rfl (lv_room (Nat.le_of_ble_eq_true rfl)) dX7_prioritySize_3 ⟨Nat.zero_le _, Nat.zero_le _⟩ (fun H locs hP hD hS => ?_)
  have hP : va_P G.1 vwCl (wMo G ad o (1, r.2)) H := hP
  have hD : va_D A (wMo G ad o (1, r.2)) := hD
  refine lv_if_eq (tgt := 13) hx hb dX7_prioritySize_6 (by decide) (fun h6_1 => ?_) (fun h6_1 => ?_)
  · exact absurd h6_1 (by decide)
  · refine lv_iconst (v := 0) hx hb dX7_prioritySize_9 (by decide) ?_
    refine lv_goto (tgt := 18) hx hb dX7_prioritySize_10 (by decide) ?_
    exact wr_iret hx hb hr hlk hS hP (by first | with_reducible rfl | (simp only [sld_eq, h6_1, ↓reduceIte]; done)) (by first | with_reducible rfl | (simp only [sld_eq, h6_1, ↓reduceIte]; done)) dX7_prioritySize_18
