set_option maxHeartbeats 4000000 in
set_option maxRecDepth 100000 in
theorem k_X7_sampledWeight (l : Launch) (G : GT) (ad : Nat → Nat) (o : Nat) (r : MoT) (st gr : Int32) (h0 : okA st 0 2) (h1 : okA gr 0 3) (h16 : (mSam r.2.2.2.1 r.2.1 st) ≤ 16) (hrs : ∀ q : Nat, q ≤ 16 → ¬ (mSam r.2.2.2.1 r.2.1 st) ≤ nI q → vp_in (mRk r.2.2.2.1 r.2.2.2.2.2.1 r.2.2.2.2.2.2.2.1 st (nI q)) 600) : Wr l yX7_sampledWeight wsX7_sampledWeight { frames := 2, cells := 0, slots := 0, locals := 52 } G (wMo G ad o r) (wMo G ad o (0, r.2)) [.ref (ad o), .int st, .int gr] (some (.int (mSwL r.2.2.2.1 r.2.2.2.2.2.1 r.2.2.2.2.2.2.1 r.2.2.2.2.2.2.2.1 st gr (mSam r.2.2.2.1 r.2.1 st) (16 - 0 + 1) 0 0))) := by
  intro sz
  refine Met.ofW (cc := cX7_sampledWeight) (maxL := 6) (ret := (some .int)) (by decide) rfl ?_
  intro p e s m args below meth c s₁ B hml hv
  obtain ⟨rfl, hsz, hP, hY, hD0⟩ := hv
  subst hsz
  have hD := hD0.self (sz := s.heap.size)
  generalize hAe : va_A (wMo G ad o r) s.heap.size = A at hD ⊢
  have hA : ∀ q : Nat, s.heap.size ≤ q → A q := fun q h => by rw [← hAe]; exact Or.inr h
  have hS : va_S A s.heap s.heap [] := va_S.rf
  have hx := B.exec
  have hb := B.bytes
  have hr := B.returns
  have hts := atoms_spec (ws := wsX7_sampledWeight) B.pre
  have hown : s.vm.findClass RX7 = some m.cls := findClass_of_methodNamed B.named
  have hlk := B.notSynchronized
  have CF : CallFix p m c cX7_sampledWeight 6 s _ wsX7_sampledWeight RX7 := ⟨hx, hb, hml, hown, hts⟩
  have hiX7 : ∀ w ∈ wsX70, w ∈ wsX7_sampledWeight := fun w h => (List.mem_cons_of_mem _ (List.mem_append_right _ h))
  have kf26 := hts (.fieldLink RX7 26 "ReservoirReedModel" "groups" "[I") (List.mem_cons_of_mem _ (List.mem_append_left _ (List.mem_append_left _ (List.mem_of_getElem? (i := 0) rfl))))
  have kf23 := hts (.fieldLink RX7 23 "ReservoirReedModel" "weights" "[I") (List.mem_cons_of_mem _ (List.mem_append_left _ (List.mem_append_left _ (List.mem_of_getElem? (i := 1) rfl))))
  have hl := lv_entry ([.ref (ad o), .int st, .int gr]) (n := 6) (Nat.le_of_ble_eq_true rfl)
  rw [lg_entry_eq]
  generalize (lg_sl ([.ref (ad o), .int st, .int gr]) ++ List.replicate (6 - (lg_sl ([.ref (ad o), .int st, .int gr])).length) Slot.unset).toArray = ls at hl ⊢
  have hl : lv_has ls 6 [(0, .ref (ad o)), (1, .int st), (2, .int gr)] := hl
  refine lv_aload_n hx hb dX7_sampledWeight_0 rfl (lv_at hl 0 rfl) ?_
  refine lv_iload_n hx hb dX7_sampledWeight_1 rfl (lv_at hl 1 rfl) ?_
  refine lv_iconst (v := 2) hx hb dX7_sampledWeight_2 (by decide) ?_
  refine lv_iload_n hx hb dX7_sampledWeight_3 rfl (lv_at hl 2 rfl) ?_
  refine wrV [] (wMo G ad o r) [] (wMo G ad o (0, r.2)) (As := [.int st, .int 2, .int gr]) (rest := []) CF (k_X7_noGroup l G ad o r st 2 gr h0 h1) (cwV 3 hts gX7_sampledWeight_X7_noGroup rfl rfl rfl (by decide +kernel) ⟨Nat.le_of_ble_eq_true rfl, Nat.le_of_ble_eq_true rfl⟩) hP hD hS hA hY rfl rfl (fst_Mo _ _ _ _ _) rfl hl.1 rfl (lv_room (Nat.le_of_ble_eq_true rfl)) dX7_sampledWeight_4 ⟨Nat.zero_le _, Nat.zero_le _⟩ (fun H locs hP hD hS => ?_)
  have hP : va_P G.1 vwCl (wMo G ad o (0, r.2)) H := hP
  have hD : va_D A (wMo G ad o (0, r.2)) := hD
  refine lv_if_eq (tgt := 12) hx hb dX7_sampledWeight_7 (by decide) (fun h7_1 => ?_) (fun h7_1 => ?_)
  · refine lv_iconst (v := 0) hx hb dX7_sampledWeight_12 (by decide) ?_
    refine lv_istore_n (lv' := [(3, .int 0), (0, .ref (ad o)), (1, .int st), (2, .int gr)]) hx hb dX7_sampledWeight_13 rfl hl (by decide) rfl (fun ls hl => ?_)
    refine lv_iconst (v := 0) hx hb dX7_sampledWeight_14 (by decide) ?_
    refine lv_istore (lv' := [(4, .int 0), (3, .int 0), (0, .ref (ad o)), (1, .int st), (2, .int gr)]) hx hb dX7_sampledWeight_15 hl (by decide) rfl (fun ls hl => ?_)
    have loop1 : ∀ (fu : Nat) (a : Nat) (x : Int32), 16 - a < fu → mSwL r.2.2.2.1 r.2.2.2.2.2.1 r.2.2.2.2.2.2.1 r.2.2.2.2.2.2.2.1 st gr (mSam r.2.2.2.1 r.2.1 st) fu a x = mSwL r.2.2.2.1 r.2.2.2.2.2.1 r.2.2.2.2.2.2.1 r.2.2.2.2.2.2.2.1 st gr (mSam r.2.2.2.1 r.2.1 st) (16 - 0 + 1) 0 0 → a ≤ 16 → ∀ (H : Heap) (locs : List Loc) (ls : Array Slot), va_P G.1 vwCl (wMo G ad o (0, r.2)) H → va_D A (wMo G ad o (0, r.2)) → va_S A s.heap H locs → lv_has ls 6 [(3, .int x), (4, .int (nI a)), (0, .ref (ad o)), (1, .int st), (2, .int gr)] → W p l e (headSpec wsX7_sampledWeight { frames := 2, cells := 0, slots := 0, locals := 52 }).room s m ([.ref (ad o), .int st, .int gr] : List Value).toArray below meth c H locs 0 0 (MQ below (WQ (some (.int (mSwL r.2.2.2.1 r.2.2.2.2.2.1 r.2.2.2.2.2.2.1 r.2.2.2.2.2.2.2.1 st gr (mSam r.2.2.2.1 r.2.1 st) (16 - 0 + 1) 0 0))) G (wMo G ad o (0, r.2)) A) ([.ref (ad o), .int st, .int gr] : List Value).toArray s 0 0 A) (F0 m 17 ls []) := by
      intro fu
      induction fu with
      | zero => intro a x hm; exact absurd hm (Nat.not_lt_zero _)
      | succ fu ih =>
        intro a x hm hR1 hqa H locs ls hP hD hS hl
        refine lv_iload hx hb dX7_sampledWeight_17 (lv_at hl 1 rfl) ?_
        refine lv_aload_n hx hb dX7_sampledWeight_19 rfl (lv_at hl 2 rfl) ?_
        refine lv_iload_n hx hb dX7_sampledWeight_20 rfl (lv_at hl 3 rfl) ?_
        refine rdV (w0 := (wMo G ad o (0, r.2))) (As := [.int st]) (rest := [.int (nI a)]) CF (k_X7_sampled l G ad o (0, r.2) st h0) (cwV 1 hts gX7_sampledWeight_X7_sampled rfl rfl rfl (by decide +kernel) ⟨Nat.le_of_ble_eq_true rfl, Nat.le_of_ble_eq_true rfl⟩) hP hY rfl rfl rfl hl.1 rfl (lv_room (Nat.le_of_ble_eq_true rfl)) dX7_sampledWeight_21 ⟨Nat.zero_le _, Nat.zero_le _⟩ ?_
        refine lv_icmp_ge (tgt := 67) hx hb dX7_sampledWeight_24 (by decide) (fun h24_2 => ?_) (fun h24_2 => ?_)
        · refine lv_iload_n hx hb dX7_sampledWeight_67 rfl (lv_at hl 0 rfl) ?_
          exact wr_iret hx hb hr hlk hS hP (by first | with_reducible rfl | (simp only [sld_eq, eq_true h7_1, ↓reduceIte]; rw [← hR1]; simp only [mSwL, h24_2, ↓reduceIte]) | (rw [← hR1]; simp only [mSwL, h24_2, ↓reduceIte])) (by first | with_reducible rfl | (simp only [sld_eq, eq_true h7_1, ↓reduceIte]; rw [← hR1]; simp only [mSwL, h24_2, ↓reduceIte]) | (rw [← hR1]; simp only [mSwL, h24_2, ↓reduceIte])) dX7_sampledWeight_68
        · refine lv_aload_n hx hb dX7_sampledWeight_27 rfl (lv_at hl 2 rfl) ?_
          refine lv_iload_n hx hb dX7_sampledWeight_28 rfl (lv_at hl 3 rfl) ?_
          refine lv_iload hx hb dX7_sampledWeight_29 (lv_at hl 1 rfl) ?_
          refine rdV (w0 := (wMo G ad o (0, r.2))) (As := [.int st, .int (nI a)]) (rest := []) CF (k_X7_ranked l G ad o (0, r.2) st (nI a)) (cwV 2 hts gX7_sampledWeight_X7_ranked rfl rfl rfl (by decide +kernel) ⟨Nat.le_of_ble_eq_true rfl, Nat.le_of_ble_eq_true rfl⟩) hP hY rfl rfl rfl hl.1 rfl (lv_room (Nat.le_of_ble_eq_true rfl)) dX7_sampledWeight_31 ⟨Nat.zero_le _, Nat.zero_le _⟩ ?_
          refine lv_istore (lv' := [(5, .int (mRk (0, r.2).2.2.2.1 (0, r.2).2.2.2.2.2.1 (0, r.2).2.2.2.2.2.2.2.1 st (nI a))), (3, .int x), (4, .int (nI a)), (0, .ref (ad o)), (1, .int st), (2, .int gr)]) hx hb dX7_sampledWeight_34 hl (by decide) rfl (fun ls hl => ?_)
          refine lv_iload_n hx hb dX7_sampledWeight_36 rfl (lv_at hl 1 rfl) ?_
          refine lv_aload_n hx hb dX7_sampledWeight_37 rfl (lv_at hl 3 rfl) ?_
          refine va_get (D := G.1) (ci := 7) (v := .ref (ad (o+4))) (C := RX7) (T := TX7) (N := 13) hx hb hts hiX7 hown hY.1 hP 0 rfl rfl 6 (by decide) kf26 (fun _ h9 => h9) rfl dX7_sampledWeight_38 ?_
          refine lv_iload hx hb dX7_sampledWeight_41 (lv_at hl 0 rfl) ?_
          refine va_iald hx hb hY.1 hP 4 0 rfl rfl (hrs a hqa h24_2) dX7_sampledWeight_43 ?_
          refine lv_iload_n hx hb dX7_sampledWeight_44 rfl (lv_at hl 5 rfl) ?_
          refine lv_icmp_ne (tgt := 58) hx hb dX7_sampledWeight_45 (by decide) (fun h45_3 => ?_) (fun h45_3 => ?_)
          · refine lv_iconst (v := 0) hx hb dX7_sampledWeight_58 (by decide) ?_
            refine lv_iadd hx hb dX7_sampledWeight_59 ?_
            refine lv_istore_n (lv' := [(3, .int (x + 0)), (5, .int (mRk (0, r.2).2.2.2.1 (0, r.2).2.2.2.2.2.1 (0, r.2).2.2.2.2.2.2.2.1 st (nI a))), (4, .int (nI a)), (0, .ref (ad o)), (1, .int st), (2, .int gr)]) hx hb dX7_sampledWeight_60 rfl hl (by decide) rfl (fun ls hl => ?_)
            refine lv_iinc (v := (nI a) + 1) (lv' := [(4, .int ((nI a) + 1)), (3, .int (x + 0)), (5, .int (mRk (0, r.2).2.2.2.1 (0, r.2).2.2.2.2.2.1 (0, r.2).2.2.2.2.2.2.2.1 st (nI a))), (0, .ref (ad o)), (1, .int st), (2, .int gr)]) hx hb dX7_sampledWeight_61 hl (k := 2) rfl rfl (by decide) rfl (fun ls hl => ?_)
            rw [show (nI a) + 1 = nI (a+1) from (nI_succ a).symm] at hl
            refine lv_goto (tgt := 17) hx hb dX7_sampledWeight_64 (by decide) ?_
            exact ih (a+1) (x + 0) (by have := (lt16 h16 hqa h24_2); omega) (by rw [← hR1]; simp only [mSwL, h24_2, h45_3, ↓reduceIte]) (lt16 h16 hqa h24_2) _ _ ls hP hD hS (lv_sub hl [1, 0, 3, 4, 5] rfl)
          · refine lv_aload_n hx hb dX7_sampledWeight_48 rfl (lv_at hl 3 rfl) ?_
            refine va_get (D := G.1) (ci := 7) (v := .ref (ad (o+3))) (C := RX7) (T := TX7) (N := 13) hx hb hts hiX7 hown hY.1 hP 0 rfl rfl 5 (by decide) kf23 (fun _ h9 => h9) rfl dX7_sampledWeight_49 ?_
            refine lv_iload hx hb dX7_sampledWeight_52 (lv_at hl 0 rfl) ?_
            refine va_iald hx hb hY.1 hP 3 0 rfl rfl (hrs a hqa h24_2) dX7_sampledWeight_54 ?_
            refine lv_goto (tgt := 59) hx hb dX7_sampledWeight_55 (by decide) ?_
            refine lv_iadd hx hb dX7_sampledWeight_59 ?_
            refine lv_istore_n (lv' := [(3, .int (x + (r.2.2.2.2.2.1 (mRk (0, r.2).2.2.2.1 (0, r.2).2.2.2.2.2.1 (0, r.2).2.2.2.2.2.2.2.1 st (nI a)).toNatClampNeg))), (5, .int (mRk (0, r.2).2.2.2.1 (0, r.2).2.2.2.2.2.1 (0, r.2).2.2.2.2.2.2.2.1 st (nI a))), (4, .int (nI a)), (0, .ref (ad o)), (1, .int st), (2, .int gr)]) hx hb dX7_sampledWeight_60 rfl hl (by decide) rfl (fun ls hl => ?_)
            refine lv_iinc (v := (nI a) + 1) (lv' := [(4, .int ((nI a) + 1)), (3, .int (x + (r.2.2.2.2.2.1 (mRk (0, r.2).2.2.2.1 (0, r.2).2.2.2.2.2.1 (0, r.2).2.2.2.2.2.2.2.1 st (nI a)).toNatClampNeg))), (5, .int (mRk (0, r.2).2.2.2.1 (0, r.2).2.2.2.2.2.1 (0, r.2).2.2.2.2.2.2.2.1 st (nI a))), (0, .ref (ad o)), (1, .int st), (2, .int gr)]) hx hb dX7_sampledWeight_61 hl (k := 2) rfl rfl (by decide) rfl (fun ls hl => ?_)
            rw [show (nI a) + 1 = nI (a+1) from (nI_succ a).symm] at hl
            refine lv_goto (tgt := 17) hx hb dX7_sampledWeight_64 (by decide) ?_
            exact ih (a+1) (x + (r.2.2.2.2.2.1 (mRk (0, r.2).2.2.2.1 (0, r.2).2.2.2.2.2.1 (0, r.2).2.2.2.2.2.2.2.1 st (nI a)).toNatClampNeg)) (by have := (lt16 h16 hqa h24_2); omega) (by rw [← hR1]; simp only [mSwL, h24_2, eq_true h45_3, ↓reduceIte]) (lt16 h16 hqa h24_2) _ _ ls hP hD hS (lv_sub hl [1, 0, 3, 4, 5] rfl)
    exact loop1 (16 - 0 + 1) 0 0 (Nat.lt_succ_self _) rfl (Nat.zero_le _) _ _ ls hP hD hS (lv_sub hl [1, 0, 2, 3, 4] rfl)
  · exact absurd rfl h7_1

set_option maxHeartbeats 4000000 in
set_option maxRecDepth 100000 in
theorem kn_X7_sampledWeight (l : Launch) (G : GT) (ad : Nat → Nat) (o : Nat) (r : MoT) (st gr : Int32) (hk : ¬ (okA st 0 2 ∧ okA gr 0 3)) : Wr l yX7_sampledWeight wsX7_sampledWeight { frames := 2, cells := 0, slots := 0, locals := 52 } G (wMo G ad o r) (wMo G ad o (1, r.2)) [.ref (ad o), .int st, .int gr] (some (.int 0)) := by
  intro sz
  refine Met.ofW (cc := cX7_sampledWeight) (maxL := 6) (ret := (some .int)) (by decide) rfl ?_
  intro p e s m args below meth c s₁ B hml hv
  obtain ⟨rfl, hsz, hP, hY, hD0⟩ := hv
  subst hsz
  have hD := hD0.self (sz := s.heap.size)
  generalize hAe : va_A (wMo G ad o r) s.heap.size = A at hD ⊢
  have hA : ∀ q : Nat, s.heap.size ≤ q → A q := fun q h => by rw [← hAe]; exact Or.inr h
  have hS : va_S A s.heap s.heap [] := va_S.rf
  have hx := B.exec
  have hb := B.bytes
  have hr := B.returns
  have hts := atoms_spec (ws := wsX7_sampledWeight) B.pre
  have hown : s.vm.findClass RX7 = some m.cls := findClass_of_methodNamed B.named
  have hlk := B.notSynchronized
  have CF : CallFix p m c cX7_sampledWeight 6 s _ wsX7_sampledWeight RX7 := ⟨hx, hb, hml, hown, hts⟩
  have hl := lv_entry ([.ref (ad o), .int st, .int gr]) (n := 6) (Nat.le_of_ble_eq_true rfl)
  rw [lg_entry_eq]
  generalize (lg_sl ([.ref (ad o), .int st, .int gr]) ++ List.replicate (6 - (lg_sl ([.ref (ad o), .int st, .int gr])).length) Slot.unset).toArray = ls at hl ⊢
  have hl : lv_has ls 6 [(0, .ref (ad o)), (1, .int st), (2, .int gr)] := hl
  refine lv_aload_n hx hb dX7_sampledWeight_0 rfl (lv_at hl 0 rfl) ?_
  refine lv_iload_n hx hb dX7_sampledWeight_1 rfl (lv_at hl 1 rfl) ?_
  refine lv_iconst (v := 2) hx hb dX7_sampledWeight_2 (by decide) ?_
  refine lv_iload_n hx hb dX7_sampledWeight_3 rfl (lv_at hl 2 rfl) ?_
  refine wrV [] (wMo G ad o r) [] (wMo G ad o (1, r.2)) (As := [.int st, .int 2, .int gr]) (rest := []) CF (kn_X7_noGroup l G ad o r st 2 gr hk) (cwV 3 hts gX7_sampledWeight_X7_noGroup rfl rfl rfl (by decide +kernel) ⟨Nat.le_of_ble_eq_true rfl, Nat.le_of_ble_eq_true rfl⟩) hP hD hS hA hY rfl rfl (fst_Mo _ _ _ _ _) rfl hl.1 rfl (lv_room (Nat.le_of_ble_eq_true rfl)) dX7_sampledWeight_4 ⟨Nat.zero_le _, Nat.zero_le _⟩ (fun H locs hP hD hS => ?_)
  have hP : va_P G.1 vwCl (wMo G ad o (1, r.2)) H := hP
  have hD : va_D A (wMo G ad o (1, r.2)) := hD
  refine lv_if_eq (tgt := 12) hx hb dX7_sampledWeight_7 (by decide) (fun h7_1 => ?_) (fun h7_1 => ?_)
  · exact absurd h7_1 (by decide)
  · refine lv_iconst (v := 0) hx hb dX7_sampledWeight_10 (by decide) ?_
    exact wr_iret hx hb hr hlk hS hP (by first | with_reducible rfl | (simp only [sld_eq, h7_1, ↓reduceIte]; done)) (by first | with_reducible rfl | (simp only [sld_eq, h7_1, ↓reduceIte]; done)) dX7_sampledWeight_11

set_option maxHeartbeats 4000000 in
set_option maxRecDepth 100000 in
theorem k_X7_estimate (l : Launch) (G : GT) (ad : Nat → Nat) (o : Nat) (r : MoT) (st gr : Int32) (h0 : okA st 0 2) (h1 : okA gr 0 3) (h16 : (mSam r.2.2.2.1 r.2.1 st) ≤ 16) (hrs : ∀ q : Nat, q ≤ 16 → ¬ (mSam r.2.2.2.1 r.2.1 st) ≤ nI q → vp_in (mRk r.2.2.2.1 r.2.2.2.2.2.1 r.2.2.2.2.2.2.2.1 st (nI q)) 600) (hr3 : (mRk r.2.2.2.1 r.2.2.2.2.2.1 r.2.2.2.2.2.2.2.1 st r.2.1) = (-1) ∨ okRk r.2.2.2.2.2.2.2.1 (mRk r.2.2.2.1 r.2.2.2.2.2.1 r.2.2.2.2.2.2.2.1 st r.2.1)) : Wr l yX7_estimate wsX7_estimate { frames := 3, cells := 0, slots := 0, locals := 74 } G (wMo G ad o r) (wMo G ad o (0, r.2)) [.ref (ad o), .int st, .int gr] (some (.long (mEsL r.2.2.2.1 r.2.2.2.2.2.1 r.2.2.2.2.2.2.1 r.2.2.2.2.2.2.2.1 st gr (mSam r.2.2.2.1 r.2.1 st) (mThr r.2.2.2.1 r.2.2.2.2.2.1 r.2.2.2.2.2.2.2.1 r.2.1 st) (16 - 0 + 1) 0 0))) := by
  intro sz
  refine Met.ofW (cc := cX7_estimate) (maxL := 11) (ret := (some .long)) (by decide) rfl ?_
  intro p e s m args below meth c s₁ B hml hv
  obtain ⟨rfl, hsz, hP, hY, hD0⟩ := hv
  subst hsz
  have hD := hD0.self (sz := s.heap.size)
  generalize hAe : va_A (wMo G ad o r) s.heap.size = A at hD ⊢
  have hA : ∀ q : Nat, s.heap.size ≤ q → A q := fun q h => by rw [← hAe]; exact Or.inr h
  have hS : va_S A s.heap s.heap [] := va_S.rf
  have hx := B.exec
  have hb := B.bytes
  have hr := B.returns
  have hts := atoms_spec (ws := wsX7_estimate) B.pre
  have hown : s.vm.findClass RX7 = some m.cls := findClass_of_methodNamed B.named
  have hlk := B.notSynchronized
  have CF : CallFix p m c cX7_estimate 11 s _ wsX7_estimate RX7 := ⟨hx, hb, hml, hown, hts⟩
  have hiX7 : ∀ w ∈ wsX70, w ∈ wsX7_estimate := fun w h => (List.mem_cons_of_mem _ (List.mem_append_right _ h))
  have kf23 := hts (.fieldLink RX7 23 "ReservoirReedModel" "weights" "[I") (List.mem_cons_of_mem _ (List.mem_append_left _ (List.mem_append_left _ (List.mem_of_getElem? (i := 0) rfl))))
  have kf26 := hts (.fieldLink RX7 26 "ReservoirReedModel" "groups" "[I") (List.mem_cons_of_mem _ (List.mem_append_left _ (List.mem_append_left _ (List.mem_of_getElem? (i := 1) rfl))))
  have hl := lv_entry ([.ref (ad o), .int st, .int gr]) (n := 11) (Nat.le_of_ble_eq_true rfl)
  rw [lg_entry_eq]
  generalize (lg_sl ([.ref (ad o), .int st, .int gr]) ++ List.replicate (11 - (lg_sl ([.ref (ad o), .int st, .int gr])).length) Slot.unset).toArray = ls at hl ⊢
  have hl : lv_has ls 11 [(0, .ref (ad o)), (1, .int st), (2, .int gr)] := hl
  refine lv_aload_n hx hb dX7_estimate_0 rfl (lv_at hl 0 rfl) ?_
  refine lv_iload_n hx hb dX7_estimate_1 rfl (lv_at hl 1 rfl) ?_
  refine lv_iconst (v := 2) hx hb dX7_estimate_2 (by decide) ?_
  refine lv_iload_n hx hb dX7_estimate_3 rfl (lv_at hl 2 rfl) ?_
  refine wrV [] (wMo G ad o r) [] (wMo G ad o (0, r.2)) (As := [.int st, .int 2, .int gr]) (rest := []) CF (k_X7_noGroup l G ad o r st 2 gr h0 h1) (cwV 3 hts gX7_estimate_X7_noGroup rfl rfl rfl (by decide +kernel) ⟨Nat.le_of_ble_eq_true rfl, Nat.le_of_ble_eq_true rfl⟩) hP hD hS hA hY rfl rfl (fst_Mo _ _ _ _ _) rfl hl.1 rfl (lv_room (Nat.le_of_ble_eq_true rfl)) dX7_estimate_4 ⟨Nat.zero_le _, Nat.zero_le _⟩ (fun H locs hP hD hS => ?_)
  have hP : va_P G.1 vwCl (wMo G ad o (0, r.2)) H := hP
  have hD : va_D A (wMo G ad o (0, r.2)) := hD
  refine lv_if_eq (tgt := 12) hx hb dX7_estimate_7 (by decide) (fun h7_1 => ?_) (fun h7_1 => ?_)
  · refine lv_aload_n hx hb dX7_estimate_12 rfl (lv_at hl 0 rfl) ?_
    refine lv_iload_n hx hb dX7_estimate_13 rfl (lv_at hl 1 rfl) ?_
    refine rdV (w0 := (wMo G ad o (0, r.2))) (As := [.int st]) (rest := []) CF (k_X7_thresholdOf l G ad o (0, r.2) st hr3) (cwV 1 hts gX7_estimate_X7_thresholdOf rfl rfl rfl (by decide +kernel) ⟨Nat.le_of_ble_eq_true rfl, Nat.le_of_ble_eq_true rfl⟩) hP hY rfl rfl rfl hl.1 rfl (lv_room (Nat.le_of_ble_eq_true rfl)) dX7_estimate_14 ⟨Nat.zero_le _, Nat.zero_le _⟩ ?_
    refine lv_lstore_n (lv' := [(3, .long (mThr (0, r.2).2.2.2.1 (0, r.2).2.2.2.2.2.1 (0, r.2).2.2.2.2.2.2.2.1 (0, r.2).2.1 st)), (0, .ref (ad o)), (1, .int st), (2, .int gr)]) hx hb dX7_estimate_17 rfl hl (by decide) rfl (fun ls hl => ?_)
    refine lv_lconst (v := 0) hx hb dX7_estimate_18 (by decide) ?_
    refine lv_lstore (lv' := [(5, .long 0), (3, .long (mThr (0, r.2).2.2.2.1 (0, r.2).2.2.2.2.2.1 (0, r.2).2.2.2.2.2.2.2.1 (0, r.2).2.1 st)), (0, .ref (ad o)), (1, .int st), (2, .int gr)]) hx hb dX7_estimate_19 hl (by decide) rfl (fun ls hl => ?_)
    refine lv_iconst (v := 0) hx hb dX7_estimate_21 (by decide) ?_
    refine lv_istore (lv' := [(7, .int 0), (5, .long 0), (3, .long (mThr (0, r.2).2.2.2.1 (0, r.2).2.2.2.2.2.1 (0, r.2).2.2.2.2.2.2.2.1 (0, r.2).2.1 st)), (0, .ref (ad o)), (1, .int st), (2, .int gr)]) hx hb dX7_estimate_22 hl (by decide) rfl (fun ls hl => ?_)
    have loop1 : ∀ (fu : Nat) (a : Nat) (x : Int64), 16 - a < fu → mEsL r.2.2.2.1 r.2.2.2.2.2.1 r.2.2.2.2.2.2.1 r.2.2.2.2.2.2.2.1 st gr (mSam r.2.2.2.1 r.2.1 st) (mThr (0, r.2).2.2.2.1 (0, r.2).2.2.2.2.2.1 (0, r.2).2.2.2.2.2.2.2.1 (0, r.2).2.1 st) fu a x = mEsL r.2.2.2.1 r.2.2.2.2.2.1 r.2.2.2.2.2.2.1 r.2.2.2.2.2.2.2.1 st gr (mSam r.2.2.2.1 r.2.1 st) (mThr (0, r.2).2.2.2.1 (0, r.2).2.2.2.2.2.1 (0, r.2).2.2.2.2.2.2.2.1 (0, r.2).2.1 st) (16 - 0 + 1) 0 0 → a ≤ 16 → ∀ (H : Heap) (locs : List Loc) (ls : Array Slot), va_P G.1 vwCl (wMo G ad o (0, r.2)) H → va_D A (wMo G ad o (0, r.2)) → va_S A s.heap H locs → lv_has ls 11 [(5, .long x), (7, .int (nI a)), (3, .long (mThr (0, r.2).2.2.2.1 (0, r.2).2.2.2.2.2.1 (0, r.2).2.2.2.2.2.2.2.1 (0, r.2).2.1 st)), (0, .ref (ad o)), (1, .int st), (2, .int gr)] → W p l e (headSpec wsX7_estimate { frames := 3, cells := 0, slots := 0, locals := 74 }).room s m ([.ref (ad o), .int st, .int gr] : List Value).toArray below meth c H locs 0 0 (MQ below (WQ (some (.long (mEsL r.2.2.2.1 r.2.2.2.2.2.1 r.2.2.2.2.2.2.1 r.2.2.2.2.2.2.2.1 st gr (mSam r.2.2.2.1 r.2.1 st) (mThr r.2.2.2.1 r.2.2.2.2.2.1 r.2.2.2.2.2.2.2.1 r.2.1 st) (16 - 0 + 1) 0 0))) G (wMo G ad o (0, r.2)) A) ([.ref (ad o), .int st, .int gr] : List Value).toArray s 0 0 A) (F0 m 24 ls []) := by
      intro fu
      induction fu with
      | zero => intro a x hm; exact absurd hm (Nat.not_lt_zero _)
      | succ fu ih =>
        intro a x hm hR1 hqa H locs ls hP hD hS hl
        refine lv_iload hx hb dX7_estimate_24 (lv_at hl 1 rfl) ?_
        refine lv_aload_n hx hb dX7_estimate_26 rfl (lv_at hl 3 rfl) ?_
        refine lv_iload_n hx hb dX7_estimate_27 rfl (lv_at hl 4 rfl) ?_
        refine rdV (w0 := (wMo G ad o (0, r.2))) (As := [.int st]) (rest := [.int (nI a)]) CF (k_X7_sampled l G ad o (0, r.2) st h0) (cwV 1 hts gX7_estimate_X7_sampled rfl rfl rfl (by decide +kernel) ⟨Nat.le_of_ble_eq_true rfl, Nat.le_of_ble_eq_true rfl⟩) hP hY rfl rfl rfl hl.1 rfl (lv_room (Nat.le_of_ble_eq_true rfl)) dX7_estimate_28 ⟨Nat.zero_le _, Nat.zero_le _⟩ ?_
        refine lv_icmp_ge (tgt := 98) hx hb dX7_estimate_31 (by decide) (fun h31_2 => ?_) (fun h31_2 => ?_)
        · refine lv_lload hx hb dX7_estimate_98 (lv_at hl 0 rfl) ?_
          exact wr_lret hx hb hr hlk hS hP (by first | with_reducible rfl | (simp only [sld_eq, eq_true h7_1, ↓reduceIte]; rw [← hR1]; simp only [mEsL, h31_2, ↓reduceIte]) | (rw [← hR1]; simp only [mEsL, h31_2, ↓reduceIte])) (by first | with_reducible rfl | (simp only [sld_eq, eq_true h7_1, ↓reduceIte]; rw [← hR1]; simp only [mEsL, h31_2, ↓reduceIte]) | (rw [← hR1]; simp only [mEsL, h31_2, ↓reduceIte])) dX7_estimate_100
        · refine lv_aload_n hx hb dX7_estimate_34 rfl (lv_at hl 3 rfl) ?_
          refine lv_iload_n hx hb dX7_estimate_35 rfl (lv_at hl 4 rfl) ?_
          refine lv_iload hx hb dX7_estimate_36 (lv_at hl 1 rfl) ?_
          refine rdV (w0 := (wMo G ad o (0, r.2))) (As := [.int st, .int (nI a)]) (rest := []) CF (k_X7_ranked l G ad o (0, r.2) st (nI a)) (cwV 2 hts gX7_estimate_X7_ranked rfl rfl rfl (by decide +kernel) ⟨Nat.le_of_ble_eq_true rfl, Nat.le_of_ble_eq_true rfl⟩) hP hY rfl rfl rfl hl.1 rfl (lv_room (Nat.le_of_ble_eq_true rfl)) dX7_estimate_38 ⟨Nat.zero_le _, Nat.zero_le _⟩ ?_
          refine lv_istore (lv' := [(8, .int (mRk (0, r.2).2.2.2.1 (0, r.2).2.2.2.2.2.1 (0, r.2).2.2.2.2.2.2.2.1 st (nI a))), (5, .long x), (7, .int (nI a)), (3, .long (mThr (0, r.2).2.2.2.1 (0, r.2).2.2.2.2.2.1 (0, r.2).2.2.2.2.2.2.2.1 (0, r.2).2.1 st)), (0, .ref (ad o)), (1, .int st), (2, .int gr)]) hx hb dX7_estimate_41 hl (by decide) rfl (fun ls hl => ?_)
          refine lv_aload_n hx hb dX7_estimate_43 rfl (lv_at hl 4 rfl) ?_
          refine va_get (D := G.1) (ci := 7) (v := .ref (ad (o+3))) (C := RX7) (T := TX7) (N := 13) hx hb hts hiX7 hown hY.1 hP 0 rfl rfl 5 (by decide) kf23 (fun _ h9 => h9) rfl dX7_estimate_44 ?_
          refine lv_iload hx hb dX7_estimate_47 (lv_at hl 0 rfl) ?_
          refine va_iald hx hb hY.1 hP 3 0 rfl rfl (hrs a hqa h31_2) dX7_estimate_49 ?_
          refine lv_i2l hx hb dX7_estimate_50 rfl ?_
          refine lv_lload_n hx hb dX7_estimate_51 rfl (lv_at hl 3 rfl) ?_
          refine W.lcmp hx hb dX7_estimate_52 ?_
          refine lv_if_le (tgt := 67) hx hb dX7_estimate_53 (by decide) (fun h53_3 => ?_) (fun h53_3 => ?_)
          · refine lv_lload_n hx hb dX7_estimate_67 rfl (lv_at hl 3 rfl) ?_
            refine lv_lstore (lv' := [(9, .long (mThr (0, r.2).2.2.2.1 (0, r.2).2.2.2.2.2.1 (0, r.2).2.2.2.2.2.2.2.1 (0, r.2).2.1 st)), (8, .int (mRk (0, r.2).2.2.2.1 (0, r.2).2.2.2.2.2.1 (0, r.2).2.2.2.2.2.2.2.1 st (nI a))), (5, .long x), (7, .int (nI a)), (3, .long (mThr (0, r.2).2.2.2.1 (0, r.2).2.2.2.2.2.1 (0, r.2).2.2.2.2.2.2.2.1 (0, r.2).2.1 st)), (0, .ref (ad o)), (1, .int st), (2, .int gr)]) hx hb dX7_estimate_68 hl (by decide) rfl (fun ls hl => ?_)
            refine lv_lload hx hb dX7_estimate_70 (lv_at hl 2 rfl) ?_
            refine lv_aload_n hx hb dX7_estimate_72 rfl (lv_at hl 5 rfl) ?_
            refine va_get (D := G.1) (ci := 7) (v := .ref (ad (o+4))) (C := RX7) (T := TX7) (N := 13) hx hb hts hiX7 hown hY.1 hP 0 rfl rfl 6 (by decide) kf26 (fun _ h9 => h9) rfl dX7_estimate_73 ?_
            refine lv_iload hx hb dX7_estimate_76 (lv_at hl 1 rfl) ?_
            refine va_iald hx hb hY.1 hP 4 0 rfl rfl (hrs a hqa h31_2) dX7_estimate_78 ?_
            refine lv_iload_n hx hb dX7_estimate_79 rfl (lv_at hl 7 rfl) ?_
            refine lv_icmp_ne (tgt := 88) hx hb dX7_estimate_80 (by decide) (fun h80_4 => ?_) (fun h80_4 => ?_)
            · refine lv_lconst (v := 0) hx hb dX7_estimate_88 (by decide) ?_
              refine lv_ladd hx hb dX7_estimate_89 ?_
              refine lv_lstore (lv' := [(5, .long (x + 0)), (9, .long (mThr (0, r.2).2.2.2.1 (0, r.2).2.2.2.2.2.1 (0, r.2).2.2.2.2.2.2.2.1 (0, r.2).2.1 st)), (8, .int (mRk (0, r.2).2.2.2.1 (0, r.2).2.2.2.2.2.1 (0, r.2).2.2.2.2.2.2.2.1 st (nI a))), (7, .int (nI a)), (3, .long (mThr (0, r.2).2.2.2.1 (0, r.2).2.2.2.2.2.1 (0, r.2).2.2.2.2.2.2.2.1 (0, r.2).2.1 st)), (0, .ref (ad o)), (1, .int st), (2, .int gr)]) hx hb dX7_estimate_90 hl (by decide) rfl (fun ls hl => ?_)
              refine lv_iinc (v := (nI a) + 1) (lv' := [(7, .int ((nI a) + 1)), (5, .long (x + 0)), (9, .long (mThr (0, r.2).2.2.2.1 (0, r.2).2.2.2.2.2.1 (0, r.2).2.2.2.2.2.2.2.1 (0, r.2).2.1 st)), (8, .int (mRk (0, r.2).2.2.2.1 (0, r.2).2.2.2.2.2.1 (0, r.2).2.2.2.2.2.2.2.1 st (nI a))), (3, .long (mThr (0, r.2).2.2.2.1 (0, r.2).2.2.2.2.2.1 (0, r.2).2.2.2.2.2.2.2.1 (0, r.2).2.1 st)), (0, .ref (ad o)), (1, .int st), (2, .int gr)]) hx hb dX7_estimate_92 hl (k := 3) rfl rfl (by decide) rfl (fun ls hl => ?_)
              rw [show (nI a) + 1 = nI (a+1) from (nI_succ a).symm] at hl
              refine lv_goto (tgt := 24) hx hb dX7_estimate_95 (by decide) ?_
              exact ih (a+1) (x + 0) (by have := (lt16 h16 hqa h31_2); omega) (by rw [← hR1]; simp only [mEsL, h31_2, h53_3, h80_4, ↓reduceIte]) (lt16 h16 hqa h31_2) _ _ ls hP hD hS (lv_sub hl [1, 0, 4, 5, 6, 7] rfl)
            · refine lv_lload hx hb dX7_estimate_83 (lv_at hl 0 rfl) ?_
              refine lv_goto (tgt := 89) hx hb dX7_estimate_85 (by decide) ?_
              refine lv_ladd hx hb dX7_estimate_89 ?_
              refine lv_lstore (lv' := [(5, .long (x + (mThr (0, r.2).2.2.2.1 (0, r.2).2.2.2.2.2.1 (0, r.2).2.2.2.2.2.2.2.1 (0, r.2).2.1 st))), (9, .long (mThr (0, r.2).2.2.2.1 (0, r.2).2.2.2.2.2.1 (0, r.2).2.2.2.2.2.2.2.1 (0, r.2).2.1 st)), (8, .int (mRk (0, r.2).2.2.2.1 (0, r.2).2.2.2.2.2.1 (0, r.2).2.2.2.2.2.2.2.1 st (nI a))), (7, .int (nI a)), (3, .long (mThr (0, r.2).2.2.2.1 (0, r.2).2.2.2.2.2.1 (0, r.2).2.2.2.2.2.2.2.1 (0, r.2).2.1 st)), (0, .ref (ad o)), (1, .int st), (2, .int gr)]) hx hb dX7_estimate_90 hl (by decide) rfl (fun ls hl => ?_)
              refine lv_iinc (v := (nI a) + 1) (lv' := [(7, .int ((nI a) + 1)), (5, .long (x + (mThr (0, r.2).2.2.2.1 (0, r.2).2.2.2.2.2.1 (0, r.2).2.2.2.2.2.2.2.1 (0, r.2).2.1 st))), (9, .long (mThr (0, r.2).2.2.2.1 (0, r.2).2.2.2.2.2.1 (0, r.2).2.2.2.2.2.2.2.1 (0, r.2).2.1 st)), (8, .int (mRk (0, r.2).2.2.2.1 (0, r.2).2.2.2.2.2.1 (0, r.2).2.2.2.2.2.2.2.1 st (nI a))), (3, .long (mThr (0, r.2).2.2.2.1 (0, r.2).2.2.2.2.2.1 (0, r.2).2.2.2.2.2.2.2.1 (0, r.2).2.1 st)), (0, .ref (ad o)), (1, .int st), (2, .int gr)]) hx hb dX7_estimate_92 hl (k := 3) rfl rfl (by decide) rfl (fun ls hl => ?_)
              rw [show (nI a) + 1 = nI (a+1) from (nI_succ a).symm] at hl
              refine lv_goto (tgt := 24) hx hb dX7_estimate_95 (by decide) ?_
              exact ih (a+1) (x + (mThr (0, r.2).2.2.2.1 (0, r.2).2.2.2.2.2.1 (0, r.2).2.2.2.2.2.2.2.1 (0, r.2).2.1 st)) (by have := (lt16 h16 hqa h31_2); omega) (by rw [← hR1]; simp only [mEsL, h31_2, h53_3, eq_true h80_4, ↓reduceIte]) (lt16 h16 hqa h31_2) _ _ ls hP hD hS (lv_sub hl [1, 0, 4, 5, 6, 7] rfl)
          · refine lv_aload_n hx hb dX7_estimate_56 rfl (lv_at hl 4 rfl) ?_
            refine va_get (D := G.1) (ci := 7) (v := .ref (ad (o+3))) (C := RX7) (T := TX7) (N := 13) hx hb hts hiX7 hown hY.1 hP 0 rfl rfl 5 (by decide) kf23 (fun _ h9 => h9) rfl dX7_estimate_57 ?_
            refine lv_iload hx hb dX7_estimate_60 (lv_at hl 0 rfl) ?_
            refine va_iald hx hb hY.1 hP 3 0 rfl rfl (hrs a hqa h31_2) dX7_estimate_62 ?_
            refine lv_i2l hx hb dX7_estimate_63 rfl ?_
            refine lv_goto (tgt := 68) hx hb dX7_estimate_64 (by decide) ?_
            refine lv_lstore (lv' := [(9, .long ((r.2.2.2.2.2.1 (mRk (0, r.2).2.2.2.1 (0, r.2).2.2.2.2.2.1 (0, r.2).2.2.2.2.2.2.2.1 st (nI a)).toNatClampNeg).toInt64)), (8, .int (mRk (0, r.2).2.2.2.1 (0, r.2).2.2.2.2.2.1 (0, r.2).2.2.2.2.2.2.2.1 st (nI a))), (5, .long x), (7, .int (nI a)), (3, .long (mThr (0, r.2).2.2.2.1 (0, r.2).2.2.2.2.2.1 (0, r.2).2.2.2.2.2.2.2.1 (0, r.2).2.1 st)), (0, .ref (ad o)), (1, .int st), (2, .int gr)]) hx hb dX7_estimate_68 hl (by decide) rfl (fun ls hl => ?_)
            refine lv_lload hx hb dX7_estimate_70 (lv_at hl 2 rfl) ?_
            refine lv_aload_n hx hb dX7_estimate_72 rfl (lv_at hl 5 rfl) ?_
            refine va_get (D := G.1) (ci := 7) (v := .ref (ad (o+4))) (C := RX7) (T := TX7) (N := 13) hx hb hts hiX7 hown hY.1 hP 0 rfl rfl 6 (by decide) kf26 (fun _ h9 => h9) rfl dX7_estimate_73 ?_
            refine lv_iload hx hb dX7_estimate_76 (lv_at hl 1 rfl) ?_
            refine va_iald hx hb hY.1 hP 4 0 rfl rfl (hrs a hqa h31_2) dX7_estimate_78 ?_
            refine lv_iload_n hx hb dX7_estimate_79 rfl (lv_at hl 7 rfl) ?_
            refine lv_icmp_ne (tgt := 88) hx hb dX7_estimate_80 (by decide) (fun h80_5 => ?_) (fun h80_5 => ?_)
            · refine lv_lconst (v := 0) hx hb dX7_estimate_88 (by decide) ?_
              refine lv_ladd hx hb dX7_estimate_89 ?_
              refine lv_lstore (lv' := [(5, .long (x + 0)), (9, .long ((r.2.2.2.2.2.1 (mRk (0, r.2).2.2.2.1 (0, r.2).2.2.2.2.2.1 (0, r.2).2.2.2.2.2.2.2.1 st (nI a)).toNatClampNeg).toInt64)), (8, .int (mRk (0, r.2).2.2.2.1 (0, r.2).2.2.2.2.2.1 (0, r.2).2.2.2.2.2.2.2.1 st (nI a))), (7, .int (nI a)), (3, .long (mThr (0, r.2).2.2.2.1 (0, r.2).2.2.2.2.2.1 (0, r.2).2.2.2.2.2.2.2.1 (0, r.2).2.1 st)), (0, .ref (ad o)), (1, .int st), (2, .int gr)]) hx hb dX7_estimate_90 hl (by decide) rfl (fun ls hl => ?_)
              refine lv_iinc (v := (nI a) + 1) (lv' := [(7, .int ((nI a) + 1)), (5, .long (x + 0)), (9, .long ((r.2.2.2.2.2.1 (mRk (0, r.2).2.2.2.1 (0, r.2).2.2.2.2.2.1 (0, r.2).2.2.2.2.2.2.2.1 st (nI a)).toNatClampNeg).toInt64)), (8, .int (mRk (0, r.2).2.2.2.1 (0, r.2).2.2.2.2.2.1 (0, r.2).2.2.2.2.2.2.2.1 st (nI a))), (3, .long (mThr (0, r.2).2.2.2.1 (0, r.2).2.2.2.2.2.1 (0, r.2).2.2.2.2.2.2.2.1 (0, r.2).2.1 st)), (0, .ref (ad o)), (1, .int st), (2, .int gr)]) hx hb dX7_estimate_92 hl (k := 3) rfl rfl (by decide) rfl (fun ls hl => ?_)
              rw [show (nI a) + 1 = nI (a+1) from (nI_succ a).symm] at hl
              refine lv_goto (tgt := 24) hx hb dX7_estimate_95 (by decide) ?_
              exact ih (a+1) (x + 0) (by have := (lt16 h16 hqa h31_2); omega) (by rw [← hR1]; simp only [mEsL, h31_2, h53_3, h80_5, ↓reduceIte]) (lt16 h16 hqa h31_2) _ _ ls hP hD hS (lv_sub hl [1, 0, 4, 5, 6, 7] rfl)
            · refine lv_lload hx hb dX7_estimate_83 (lv_at hl 0 rfl) ?_
              refine lv_goto (tgt := 89) hx hb dX7_estimate_85 (by decide) ?_
              refine lv_ladd hx hb dX7_estimate_89 ?_
              refine lv_lstore (lv' := [(5, .long (x + ((r.2.2.2.2.2.1 (mRk (0, r.2).2.2.2.1 (0, r.2).2.2.2.2.2.1 (0, r.2).2.2.2.2.2.2.2.1 st (nI a)).toNatClampNeg).toInt64))), (9, .long ((r.2.2.2.2.2.1 (mRk (0, r.2).2.2.2.1 (0, r.2).2.2.2.2.2.1 (0, r.2).2.2.2.2.2.2.2.1 st (nI a)).toNatClampNeg).toInt64)), (8, .int (mRk (0, r.2).2.2.2.1 (0, r.2).2.2.2.2.2.1 (0, r.2).2.2.2.2.2.2.2.1 st (nI a))), (7, .int (nI a)), (3, .long (mThr (0, r.2).2.2.2.1 (0, r.2).2.2.2.2.2.1 (0, r.2).2.2.2.2.2.2.2.1 (0, r.2).2.1 st)), (0, .ref (ad o)), (1, .int st), (2, .int gr)]) hx hb dX7_estimate_90 hl (by decide) rfl (fun ls hl => ?_)
              refine lv_iinc (v := (nI a) + 1) (lv' := [(7, .int ((nI a) + 1)), (5, .long (x + ((r.2.2.2.2.2.1 (mRk (0, r.2).2.2.2.1 (0, r.2).2.2.2.2.2.1 (0, r.2).2.2.2.2.2.2.2.1 st (nI a)).toNatClampNeg).toInt64))), (9, .long ((r.2.2.2.2.2.1 (mRk (0, r.2).2.2.2.1 (0, r.2).2.2.2.2.2.1 (0, r.2).2.2.2.2.2.2.2.1 st (nI a)).toNatClampNeg).toInt64)), (8, .int (mRk (0, r.2).2.2.2.1 (0, r.2).2.2.2.2.2.1 (0, r.2).2.2.2.2.2.2.2.1 st (nI a))), (3, .long (mThr (0, r.2).2.2.2.1 (0, r.2).2.2.2.2.2.1 (0, r.2).2.2.2.2.2.2.2.1 (0, r.2).2.1 st)), (0, .ref (ad o)), (1, .int st), (2, .int gr)]) hx hb dX7_estimate_92 hl (k := 3) rfl rfl (by decide) rfl (fun ls hl => ?_)
              rw [show (nI a) + 1 = nI (a+1) from (nI_succ a).symm] at hl
              refine lv_goto (tgt := 24) hx hb dX7_estimate_95 (by decide) ?_
              exact ih (a+1) (x + ((r.2.2.2.2.2.1 (mRk (0, r.2).2.2.2.1 (0, r.2).2.2.2.2.2.1 (0, r.2).2.2.2.2.2.2.2.1 st (nI a)).toNatClampNeg).toInt64)) (by have := (lt16 h16 hqa h31_2); omega) (by rw [← hR1]; simp only [mEsL, h31_2, h53_3, eq_true h80_5, ↓reduceIte]) (lt16 h16 hqa h31_2) _ _ ls hP hD hS (lv_sub hl [1, 0, 4, 5, 6, 7] rfl)
    exact loop1 (16 - 0 + 1) 0 0 (Nat.lt_succ_self _) rfl (Nat.zero_le _) _ _ ls hP hD hS (lv_sub hl [1, 0, 2, 3, 4, 5] rfl)
  · exact absurd rfl h7_1

set_option maxHeartbeats 4000000 in
set_option maxRecDepth 100000 in
theorem kn_X7_estimate (l : Launch) (G : GT) (ad : Nat → Nat) (o : Nat) (r : MoT) (st gr : Int32) (hk : ¬ (okA st 0 2 ∧ okA gr 0 3)) : Wr l yX7_estimate wsX7_estimate { frames := 3, cells := 0, slots := 0, locals := 74 } G (wMo G ad o r) (wMo G ad o (1, r.2)) [.ref (ad o), .int st, .int gr] (some (.long 0)) := by
  intro sz
  refine Met.ofW (cc := cX7_estimate) (maxL := 11) (ret := (some .long)) (by decide) rfl ?_
  intro p e s m args below meth c s₁ B hml hv
  obtain ⟨rfl, hsz, hP, hY, hD0⟩ := hv
  subst hsz
  have hD := hD0.self (sz := s.heap.size)
  generalize hAe : va_A (wMo G ad o r) s.heap.size = A at hD ⊢
  have hA : ∀ q : Nat, s.heap.size ≤ q → A q := fun q h => by rw [← hAe]; exact Or.inr h
  have hS : va_S A s.heap s.heap [] := va_S.rf
  have hx := B.exec
  have hb := B.bytes
  have hr := B.returns
  have hts := atoms_spec (ws := wsX7_estimate) B.pre
  have hown : s.vm.findClass RX7 = some m.cls := findClass_of_methodNamed B.named
  have hlk := B.notSynchronized
  have CF : CallFix p m c cX7_estimate 11 s _ wsX7_estimate RX7 := ⟨hx, hb, hml, hown, hts⟩
  have hl := lv_entry ([.ref (ad o), .int st, .int gr]) (n := 11) (Nat.le_of_ble_eq_true rfl)
  rw [lg_entry_eq]
  generalize (lg_sl ([.ref (ad o), .int st, .int gr]) ++ List.replicate (11 - (lg_sl ([.ref (ad o), .int st, .int gr])).length) Slot.unset).toArray = ls at hl ⊢
  have hl : lv_has ls 11 [(0, .ref (ad o)), (1, .int st), (2, .int gr)] := hl
  refine lv_aload_n hx hb dX7_estimate_0 rfl (lv_at hl 0 rfl) ?_
  refine lv_iload_n hx hb dX7_estimate_1 rfl (lv_at hl 1 rfl) ?_
  refine lv_iconst (v := 2) hx hb dX7_estimate_2 (by decide) ?_
  refine lv_iload_n hx hb dX7_estimate_3 rfl (lv_at hl 2 rfl) ?_
  refine wrV [] (wMo G ad o r) [] (wMo G ad o (1, r.2)) (As := [.int st, .int 2, .int gr]) (rest := []) CF (kn_X7_noGroup l G ad o r st 2 gr hk) (cwV 3 hts gX7_estimate_X7_noGroup rfl rfl rfl (by decide +kernel) ⟨Nat.le_of_ble_eq_true rfl, Nat.le_of_ble_eq_true rfl⟩) hP hD hS hA hY rfl rfl (fst_Mo _ _ _ _ _) rfl hl.1 rfl (lv_room (Nat.le_of_ble_eq_true rfl)) dX7_estimate_4 ⟨Nat.zero_le _, Nat.zero_le _⟩ (fun H locs hP hD hS => ?_)
  have hP : va_P G.1 vwCl (wMo G ad o (1, r.2)) H := hP
  have hD : va_D A (wMo G ad o (1, r.2)) := hD
  refine lv_if_eq (tgt := 12) hx hb dX7_estimate_7 (by decide) (fun h7_1 => ?_) (fun h7_1 => ?_)
  · exact absurd h7_1 (by decide)
  · refine lv_lconst (v := 0) hx hb dX7_estimate_10 (by decide) ?_
    exact wr_lret hx hb hr hlk hS hP (by first | with_reducible rfl | (simp only [sld_eq, h7_1, ↓reduceIte]; done)) (by first | with_reducible rfl | (simp only [sld_eq, h7_1, ↓reduceIte]; done)) dX7_estimate_11
