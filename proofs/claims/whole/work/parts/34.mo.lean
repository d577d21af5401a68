set_option maxHeartbeats 4000000 in
set_option maxRecDepth 100000 in
theorem k_X7_exactWeight (l : Launch) (G : GT) (ad : Nat → Nat) (o : Nat) (r : MoT) (st gr : Int32) (h0 : okA st 0 2) (h1 : okA gr 0 3) : Wr l yX7_exactWeight wsX7_exactWeight { frames := 2, cells := 0, slots := 0, locals := 45 } G (wMo G ad o r) (wMo G ad o (0, r.2)) [.ref (ad o), .int st, .int gr] (some (.int (mEwL r.2.2.2.1 r.2.2.2.2.2.1 r.2.2.2.2.2.2.1 st gr (600 - 0 + 1) 0 0))) := by
  intro sz
  refine Met.ofW (cc := cX7_exactWeight) (maxL := 5) (ret := (some .int)) (by decide) rfl ?_
  intro p e s m args below meth c s₁ B hml hv
  obtain ⟨rfl, hsz, hP, hY, hD0⟩ := hv
  subst hsz
  have hD := hD0.self (sz := s.heap.size)
  generalize hAe : va_A (wMo G ad o r) s.heap.size = A at hD ⊢
  have hA : ∀ q : Nat, s.heap.size ≤ q → A q := fun q h => by rw [← hAe]; exact Or.inr h
  have hS : va_S A s.heap s.heap [] := va_S.rf
  have hx := B.exec
  have hb := B.bytes
  have hr := B.returns
  have hts := atoms_spec (ws := wsX7_exactWeight) B.pre
  have hown : s.vm.findClass RX7 = some m.cls := findClass_of_methodNamed B.named
  have hlk := B.notSynchronized
  have CF : CallFix p m c cX7_exactWeight 5 s _ wsX7_exactWeight RX7 := ⟨hx, hb, hml, hown, hts⟩
  have hiX7 : ∀ w ∈ wsX70, w ∈ wsX7_exactWeight := fun w h => (List.mem_cons_of_mem _ (List.mem_append_right _ h))
  have kf26 := hts (.fieldLink RX7 26 "ReservoirReedModel" "groups" "[I") (List.mem_cons_of_mem _ (List.mem_append_left _ (List.mem_of_getElem? (i := 0) rfl)))
  have kf23 := hts (.fieldLink RX7 23 "ReservoirReedModel" "weights" "[I") (List.mem_cons_of_mem _ (List.mem_append_left _ (List.mem_of_getElem? (i := 1) rfl)))
  have hl := lv_entry ([.ref (ad o), .int st, .int gr]) (n := 5) (Nat.le_of_ble_eq_true rfl)
  rw [lg_entry_eq]
  generalize (lg_sl ([.ref (ad o), .int st, .int gr]) ++ List.replicate (5 - (lg_sl ([.ref (ad o), .int st, .int gr])).length) Slot.unset).toArray = ls at hl ⊢
  have hl : lv_has ls 5 [(0, .ref (ad o)), (1, .int st), (2, .int gr)] := hl
  refine lv_aload_n hx hb dX7_exactWeight_0 rfl (lv_at hl 0 rfl) ?_
  refine lv_iload_n hx hb dX7_exactWeight_1 rfl (lv_at hl 1 rfl) ?_
  refine lv_iconst (v := 2) hx hb dX7_exactWeight_2 (by decide) ?_
  refine lv_iload_n hx hb dX7_exactWeight_3 rfl (lv_at hl 2 rfl) ?_
  refine wrV [] (wMo G ad o r) [] (wMo G ad o (0, r.2)) (As := [.int st, .int 2, .int gr]) (rest := []) CF (k_X7_noGroup l G ad o r st 2 gr h0 h1) (cwV 3 hts gX7_exactWeight_X7_noGroup rfl rfl rfl (by decide +kernel) ⟨Nat.le_of_ble_eq_true rfl, Nat.le_of_ble_eq_true rfl⟩) hP hD hS hA hY rfl rfl (fst_Mo _ _ _ _ _) rfl hl.1 rfl (lv_room (Nat.le_of_ble_eq_true rfl)) dX7_exactWeight_4 ⟨Nat.zero_le _, Nat.zero_le _⟩ (fun H locs hP hD hS => ?_)
  have hP : va_P G.1 vwCl (wMo G ad o (0, r.2)) H := hP
  have hD : va_D A (wMo G ad o (0, r.2)) := hD
  refine lv_if_eq (tgt := 12) hx hb dX7_exactWeight_7 (by decide) (fun h7_1 => ?_) (fun h7_1 => ?_)
  · refine lv_iconst (v := 0) hx hb dX7_exactWeight_12 (by decide) ?_
    refine lv_istore_n (lv' := [(3, .int 0), (0, .ref (ad o)), (1, .int st), (2, .int gr)]) hx hb dX7_exactWeight_13 rfl hl (by decide) rfl (fun ls hl => ?_)
    refine lv_iconst (v := 0) hx hb dX7_exactWeight_14 (by decide) ?_
    refine lv_istore (lv' := [(4, .int 0), (3, .int 0), (0, .ref (ad o)), (1, .int st), (2, .int gr)]) hx hb dX7_exactWeight_15 hl (by decide) rfl (fun ls hl => ?_)
    have loop1 : ∀ (fu : Nat) (a : Nat) (x : Int32), 600 - a < fu → mEwL r.2.2.2.1 r.2.2.2.2.2.1 r.2.2.2.2.2.2.1 st gr fu a x = mEwL r.2.2.2.1 r.2.2.2.2.2.1 r.2.2.2.2.2.2.1 st gr (600 - 0 + 1) 0 0 → a ≤ 600 → ∀ (H : Heap) (locs : List Loc) (ls : Array Slot), va_P G.1 vwCl (wMo G ad o (0, r.2)) H → va_D A (wMo G ad o (0, r.2)) → va_S A s.heap H locs → lv_has ls 5 [(3, .int x), (4, .int (nI a)), (0, .ref (ad o)), (1, .int st), (2, .int gr)] → W p l e (headSpec wsX7_exactWeight { frames := 2, cells := 0, slots := 0, locals := 45 }).room s m ([.ref (ad o), .int st, .int gr] : List Value).toArray below meth c H locs 0 0 (MQ below (WQ (some (.int (mEwL r.2.2.2.1 r.2.2.2.2.2.1 r.2.2.2.2.2.2.1 st gr (600 - 0 + 1) 0 0))) G (wMo G ad o (0, r.2)) A) ([.ref (ad o), .int st, .int gr] : List Value).toArray s 0 0 A) (F0 m 17 ls []) := by
      intro fu
      induction fu with
      | zero => intro a x hm; exact absurd hm (Nat.not_lt_zero _)
      | succ fu ih =>
        intro a x hm hR1 ha H locs ls hP hD hS hl
        refine lv_iload hx hb dX7_exactWeight_17 (lv_at hl 1 rfl) ?_
        refine lv_sipush (v := 600) hx hb dX7_exactWeight_19 (by decide) ?_
        refine lv_icmp_ge (tgt := 66) hx hb dX7_exactWeight_22 (by decide) (fun h22_2 => ?_) (fun h22_2 => ?_)
        · refine lv_iload_n hx hb dX7_exactWeight_66 rfl (lv_at hl 0 rfl) ?_
          exact wr_iret hx hb hr hlk hS hP (by first | with_reducible rfl | (simp only [sld_eq, eq_true h7_1, ↓reduceIte]; rw [← hR1]; simp only [mEwL, h22_2, ↓reduceIte]) | (rw [← hR1]; simp only [mEwL, h22_2, ↓reduceIte])) (by first | with_reducible rfl | (simp only [sld_eq, eq_true h7_1, ↓reduceIte]; rw [← hR1]; simp only [mEwL, h22_2, ↓reduceIte]) | (rw [← hR1]; simp only [mEwL, h22_2, ↓reduceIte])) dX7_exactWeight_67
        · refine lv_iload_n hx hb dX7_exactWeight_25 rfl (lv_at hl 0 rfl) ?_
          refine lv_aload_n hx hb dX7_exactWeight_26 rfl (lv_at hl 2 rfl) ?_
          refine lv_iload_n hx hb dX7_exactWeight_27 rfl (lv_at hl 3 rfl) ?_
          refine lv_iload hx hb dX7_exactWeight_28 (lv_at hl 1 rfl) ?_
          refine rdV (w0 := (wMo G ad o (0, r.2))) (As := [.int st, .int (nI a)]) (rest := [.int x]) CF (k_X7_isOf l G ad o (0, r.2) st (nI a) (of_in (lt600 ha h22_2))) (cwV 2 hts gX7_exactWeight_X7_isOf rfl rfl rfl (by decide +kernel) ⟨Nat.le_of_ble_eq_true rfl, Nat.le_of_ble_eq_true rfl⟩) hP hY rfl rfl rfl hl.1 rfl (lv_room (Nat.le_of_ble_eq_true rfl)) dX7_exactWeight_30 ⟨Nat.zero_le _, Nat.zero_le _⟩ ?_
          refine lv_if_eq (tgt := 57) hx hb dX7_exactWeight_33 (by decide) (fun h33_3 => ?_) (fun h33_3 => ?_)
          · refine lv_iconst (v := 0) hx hb dX7_exactWeight_57 (by decide) ?_
            refine lv_iadd hx hb dX7_exactWeight_58 ?_
            refine lv_istore_n (lv' := [(3, .int (x + 0)), (4, .int (nI a)), (0, .ref (ad o)), (1, .int st), (2, .int gr)]) hx hb dX7_exactWeight_59 rfl hl (by decide) rfl (fun ls hl => ?_)
            refine lv_iinc (v := (nI a) + 1) (lv' := [(4, .int ((nI a) + 1)), (3, .int (x + 0)), (0, .ref (ad o)), (1, .int st), (2, .int gr)]) hx hb dX7_exactWeight_60 hl (k := 1) rfl rfl (by decide) rfl (fun ls hl => ?_)
            rw [show (nI a) + 1 = nI (a+1) from (nI_succ a).symm] at hl
            refine lv_goto (tgt := 17) hx hb dX7_exactWeight_63 (by decide) ?_
            exact ih (a+1) (x + 0) (by have := (lt600 ha h22_2); omega) (by rw [← hR1]; simp only [mEwL, h22_2, eq_true h33_3, ↓reduceIte]) (lt600 ha h22_2) _ _ ls hP hD hS (lv_sub hl [1, 0, 2, 3, 4] rfl)
          · refine lv_aload_n hx hb dX7_exactWeight_36 rfl (lv_at hl 2 rfl) ?_
            refine va_get (D := G.1) (ci := 7) (v := .ref (ad (o+4))) (C := RX7) (T := TX7) (N := 13) hx hb hts hiX7 hown hY.1 hP 0 rfl rfl 6 (by decide) kf26 (fun _ h9 => h9) rfl dX7_exactWeight_37 ?_
            refine lv_iload hx hb dX7_exactWeight_40 (lv_at hl 1 rfl) ?_
            refine va_iald hx hb hY.1 hP 4 0 rfl rfl (vp_nI (lt600 ha h22_2) (by decide)) dX7_exactWeight_42 ?_
            refine lv_iload_n hx hb dX7_exactWeight_43 rfl (lv_at hl 4 rfl) ?_
            refine lv_icmp_ne (tgt := 57) hx hb dX7_exactWeight_44 (by decide) (fun h44_4 => ?_) (fun h44_4 => ?_)
            · refine lv_iconst (v := 0) hx hb dX7_exactWeight_57 (by decide) ?_
              refine lv_iadd hx hb dX7_exactWeight_58 ?_
              refine lv_istore_n (lv' := [(3, .int (x + 0)), (4, .int (nI a)), (0, .ref (ad o)), (1, .int st), (2, .int gr)]) hx hb dX7_exactWeight_59 rfl hl (by decide) rfl (fun ls hl => ?_)
              refine lv_iinc (v := (nI a) + 1) (lv' := [(4, .int ((nI a) + 1)), (3, .int (x + 0)), (0, .ref (ad o)), (1, .int st), (2, .int gr)]) hx hb dX7_exactWeight_60 hl (k := 1) rfl rfl (by decide) rfl (fun ls hl => ?_)
              rw [show (nI a) + 1 = nI (a+1) from (nI_succ a).symm] at hl
              refine lv_goto (tgt := 17) hx hb dX7_exactWeight_63 (by decide) ?_
              exact ih (a+1) (x + 0) (by have := (lt600 ha h22_2); omega) (by rw [← hR1]; simp only [mEwL, h22_2, h33_3, h44_4, ↓reduceIte]) (lt600 ha h22_2) _ _ ls hP hD hS (lv_sub hl [1, 0, 2, 3, 4] rfl)
            · refine lv_aload_n hx hb dX7_exactWeight_47 rfl (lv_at hl 2 rfl) ?_
              refine va_get (D := G.1) (ci := 7) (v := .ref (ad (o+3))) (C := RX7) (T := TX7) (N := 13) hx hb hts hiX7 hown hY.1 hP 0 rfl rfl 5 (by decide) kf23 (fun _ h9 => h9) rfl dX7_exactWeight_48 ?_
              refine lv_iload hx hb dX7_exactWeight_51 (lv_at hl 1 rfl) ?_
              refine va_iald hx hb hY.1 hP 3 0 rfl rfl (vp_nI (lt600 ha h22_2) (by decide)) dX7_exactWeight_53 ?_
              refine lv_goto (tgt := 58) hx hb dX7_exactWeight_54 (by decide) ?_
              refine lv_iadd hx hb dX7_exactWeight_58 ?_
              refine lv_istore_n (lv' := [(3, .int (x + (r.2.2.2.2.2.1 (nI a).toNatClampNeg))), (4, .int (nI a)), (0, .ref (ad o)), (1, .int st), (2, .int gr)]) hx hb dX7_exactWeight_59 rfl hl (by decide) rfl (fun ls hl => ?_)
              refine lv_iinc (v := (nI a) + 1) (lv' := [(4, .int ((nI a) + 1)), (3, .int (x + (r.2.2.2.2.2.1 (nI a).toNatClampNeg))), (0, .ref (ad o)), (1, .int st), (2, .int gr)]) hx hb dX7_exactWeight_60 hl (k := 1) rfl rfl (by decide) rfl (fun ls hl => ?_)
              rw [show (nI a) + 1 = nI (a+1) from (nI_succ a).symm] at hl
              refine lv_goto (tgt := 17) hx hb dX7_exactWeight_63 (by decide) ?_
              exact ih (a+1) (x + (r.2.2.2.2.2.1 (nI a).toNatClampNeg)) (by have := (lt600 ha h22_2); omega) (by rw [← hR1]; simp only [mEwL, h22_2, h33_3, eq_true h44_4, ↓reduceIte]) (lt600 ha h22_2) _ _ ls hP hD hS (lv_sub hl [1, 0, 2, 3, 4] rfl)
    exact loop1 (600 - 0 + 1) 0 0 (Nat.lt_succ_self _) rfl (Nat.zero_le _) _ _ ls hP hD hS (lv_sub hl [1, 0, 2, 3, 4] rfl)
  · exact absurd rfl h7_1

set_option maxHeartbeats 4000000 in
set_option maxRecDepth 100000 in
theorem kn_X7_exactWeight (l : Launch) (G : GT) (ad : Nat → Nat) (o : Nat) (r : MoT) (st gr : Int32) (hk : ¬ (okA st 0 2 ∧ okA gr 0 3)) : Wr l yX7_exactWeight wsX7_exactWeight { frames := 2, cells := 0, slots := 0, locals := 45 } G (wMo G ad o r) (wMo G ad o (1, r.2)) [.ref (ad o), .int st, .int gr] (some (.int 0)) := by
  intro sz
  refine Met.ofW (cc := cX7_exactWeight) (maxL := 5) (ret := (some .int)) (by decide) rfl ?_
  intro p e s m args below meth c s₁ B hml hv
  obtain ⟨rfl, hsz, hP, hY, hD0⟩ := hv
  subst hsz
  have hD := hD0.self (sz := s.heap.size)
  generalize hAe : va_A (wMo G ad o r) s.heap.size = A at hD ⊢
  have hA : ∀ q : Nat, s.heap.size ≤ q → A q := fun q h => by rw [← hAe]; exact Or.inr h
  have hS : va_S A s.heap s.heap [] := va_S.rf
  have hx := B.exec
  have hb := B.bytes
  have hr := B.returns
  have hts := atoms_spec (ws := wsX7_exactWeight) B.pre
  have hown : s.vm.findClass RX7 = some m.cls := findClass_of_methodNamed B.named
  have hlk := B.notSynchronized
  have CF : CallFix p m c cX7_exactWeight 5 s _ wsX7_exactWeight RX7 := ⟨hx, hb, hml, hown, hts⟩
  have hl := lv_entry ([.ref (ad o), .int st, .int gr]) (n := 5) (Nat.le_of_ble_eq_true rfl)
  rw [lg_entry_eq]
  generalize (lg_sl ([.ref (ad o), .int st, .int gr]) ++ List.replicate (5 - (lg_sl ([.ref (ad o), .int st, .int gr])).length) Slot.unset).toArray = ls at hl ⊢
  have hl : lv_has ls 5 [(0, .ref (ad o)), (1, .int st), (2, .int gr)] := hl
  refine lv_aload_n hx hb dX7_exactWeight_0 rfl (lv_at hl 0 rfl) ?_
  refine lv_iload_n hx hb dX7_exactWeight_1 rfl (lv_at hl 1 rfl) ?_
  refine lv_iconst (v := 2) hx hb dX7_exactWeight_2 (by decide) ?_
  refine lv_iload_n hx hb dX7_exactWeight_3 rfl (lv_at hl 2 rfl) ?_
  refine wrV [] (wMo G ad o r) [] (wMo G ad o (1, r.2)) (As := [.int st, .int 2, .int gr]) (rest := []) CF (kn_X7_noGroup l G ad o r st 2 gr hk) (cwV 3 hts gX7_exactWeight_X7_noGroup rfl rfl rfl (by decide +kernel) ⟨Nat.le_of_ble_eq_true rfl, Nat.le_of_ble_eq_true rfl⟩) hP hD hS hA hY rfl rfl (fst_Mo _ _ _ _ _) rfl hl.1 rfl (lv_room (Nat.le_of_ble_eq_true rfl)) dX7_exactWeight_4 ⟨Nat.zero_le _, Nat.zero_le _⟩ (fun H locs hP hD hS => ?_)
  have hP : va_P G.1 vwCl (wMo G ad o (1, r.2)) H := hP
  have hD : va_D A (wMo G ad o (1, r.2)) := hD
  refine lv_if_eq (tgt := 12) hx hb dX7_exactWeight_7 (by decide) (fun h7_1 => ?_) (fun h7_1 => ?_)
  · exact absurd h7_1 (by decide)
  · refine lv_iconst (v := 0) hx hb dX7_exactWeight_10 (by decide) ?_
    exact wr_iret hx hb hr hlk hS hP (by first | with_reducible rfl | (simp only [sld_eq, h7_1, ↓reduceIte]; done)) (by first | with_reducible rfl | (simp only [sld_eq, h7_1, ↓reduceIte]; done)) dX7_exactWeight_11

set_option maxHeartbeats 4000000 in
set_option maxRecDepth 100000 in
theorem k_X7_groupOffers (l : Launch) (G : GT) (ad : Nat → Nat) (o : Nat) (r : MoT) (st gr : Int32) (h0 : okA st 0 1) (h1 : okA gr 0 3) : Wr l yX7_groupOffers wsX7_groupOffers { frames := 2, cells := 0, slots := 0, locals := 45 } G (wMo G ad o r) (wMo G ad o (0, r.2)) [.ref (ad o), .int st, .int gr] (some (.int (mGoL r.2.2.2.1 r.2.2.2.2.2.2.1 st gr (600 - 0 + 1) 0 0))) := by
  intro sz
  refine Met.ofW (cc := cX7_groupOffers) (maxL := 5) (ret := (some .int)) (by decide) rfl ?_
  intro p e s m args below meth c s₁ B hml hv
  obtain ⟨rfl, hsz, hP, hY, hD0⟩ := hv
  subst hsz
  have hD := hD0.self (sz := s.heap.size)
  generalize hAe : va_A (wMo G ad o r) s.heap.size = A at hD ⊢
  have hA : ∀ q : Nat, s.heap.size ≤ q → A q := fun q h => by rw [← hAe]; exact Or.inr h
  have hS : va_S A s.heap s.heap [] := va_S.rf
  have hx := B.exec
  have hb := B.bytes
  have hr := B.returns
  have hts := atoms_spec (ws := wsX7_groupOffers) B.pre
  have hown : s.vm.findClass RX7 = some m.cls := findClass_of_methodNamed B.named
  have hlk := B.notSynchronized
  have CF : CallFix p m c cX7_groupOffers 5 s _ wsX7_groupOffers RX7 := ⟨hx, hb, hml, hown, hts⟩
  have hiX7 : ∀ w ∈ wsX70, w ∈ wsX7_groupOffers := fun w h => (List.mem_cons_of_mem _ (List.mem_append_right _ h))
  have kf26 := hts (.fieldLink RX7 26 "ReservoirReedModel" "groups" "[I") (List.mem_cons_of_mem _ (List.mem_append_left _ (List.mem_of_getElem? (i := 0) rfl)))
  have hl := lv_entry ([.ref (ad o), .int st, .int gr]) (n := 5) (Nat.le_of_ble_eq_true rfl)
  rw [lg_entry_eq]
  generalize (lg_sl ([.ref (ad o), .int st, .int gr]) ++ List.replicate (5 - (lg_sl ([.ref (ad o), .int st, .int gr])).length) Slot.unset).toArray = ls at hl ⊢
  have hl : lv_has ls 5 [(0, .ref (ad o)), (1, .int st), (2, .int gr)] := hl
  refine lv_aload_n hx hb dX7_groupOffers_0 rfl (lv_at hl 0 rfl) ?_
  refine lv_iload_n hx hb dX7_groupOffers_1 rfl (lv_at hl 1 rfl) ?_
  refine lv_iconst (v := 1) hx hb dX7_groupOffers_2 (by decide) ?_
  refine lv_iload_n hx hb dX7_groupOffers_3 rfl (lv_at hl 2 rfl) ?_
  refine wrV [] (wMo G ad o r) [] (wMo G ad o (0, r.2)) (As := [.int st, .int 1, .int gr]) (rest := []) CF (k_X7_noGroup l G ad o r st 1 gr h0 h1) (cwV 3 hts gX7_groupOffers_X7_noGroup rfl rfl rfl (by decide +kernel) ⟨Nat.le_of_ble_eq_true rfl, Nat.le_of_ble_eq_true rfl⟩) hP hD hS hA hY rfl rfl (fst_Mo _ _ _ _ _) rfl hl.1 rfl (lv_room (Nat.le_of_ble_eq_true rfl)) dX7_groupOffers_4 ⟨Nat.zero_le _, Nat.zero_le _⟩ (fun H locs hP hD hS => ?_)
  have hP : va_P G.1 vwCl (wMo G ad o (0, r.2)) H := hP
  have hD : va_D A (wMo G ad o (0, r.2)) := hD
  refine lv_if_eq (tgt := 12) hx hb dX7_groupOffers_7 (by decide) (fun h7_1 => ?_) (fun h7_1 => ?_)
  · refine lv_iconst (v := 0) hx hb dX7_groupOffers_12 (by decide) ?_
    refine lv_istore_n (lv' := [(3, .int 0), (0, .ref (ad o)), (1, .int st), (2, .int gr)]) hx hb dX7_groupOffers_13 rfl hl (by decide) rfl (fun ls hl => ?_)
    refine lv_iconst (v := 0) hx hb dX7_groupOffers_14 (by decide) ?_
    refine lv_istore (lv' := [(4, .int 0), (3, .int 0), (0, .ref (ad o)), (1, .int st), (2, .int gr)]) hx hb dX7_groupOffers_15 hl (by decide) rfl (fun ls hl => ?_)
    have loop1 : ∀ (fu : Nat) (a : Nat) (x : Int32), 600 - a < fu → mGoL r.2.2.2.1 r.2.2.2.2.2.2.1 st gr fu a x = mGoL r.2.2.2.1 r.2.2.2.2.2.2.1 st gr (600 - 0 + 1) 0 0 → a ≤ 600 → ∀ (H : Heap) (locs : List Loc) (ls : Array Slot), va_P G.1 vwCl (wMo G ad o (0, r.2)) H → va_D A (wMo G ad o (0, r.2)) → va_S A s.heap H locs → lv_has ls 5 [(3, .int x), (4, .int (nI a)), (0, .ref (ad o)), (1, .int st), (2, .int gr)] → W p l e (headSpec wsX7_groupOffers { frames := 2, cells := 0, slots := 0, locals := 45 }).room s m ([.ref (ad o), .int st, .int gr] : List Value).toArray below meth c H locs 0 0 (MQ below (WQ (some (.int (mGoL r.2.2.2.1 r.2.2.2.2.2.2.1 st gr (600 - 0 + 1) 0 0))) G (wMo G ad o (0, r.2)) A) ([.ref (ad o), .int st, .int gr] : List Value).toArray s 0 0 A) (F0 m 17 ls []) := by
      intro fu
      induction fu with
      | zero => intro a x hm; exact absurd hm (Nat.not_lt_zero _)
      | succ fu ih =>
        intro a x hm hR1 ha H locs ls hP hD hS hl
        refine lv_iload hx hb dX7_groupOffers_17 (lv_at hl 1 rfl) ?_
        refine lv_sipush (v := 600) hx hb dX7_groupOffers_19 (by decide) ?_
        refine lv_icmp_ge (tgt := 60) hx hb dX7_groupOffers_22 (by decide) (fun h22_2 => ?_) (fun h22_2 => ?_)
        · refine lv_iload_n hx hb dX7_groupOffers_60 rfl (lv_at hl 0 rfl) ?_
          exact wr_iret hx hb hr hlk hS hP (by first | with_reducible rfl | (simp only [sld_eq, eq_true h7_1, ↓reduceIte]; rw [← hR1]; simp only [mGoL, h22_2, ↓reduceIte]) | (rw [← hR1]; simp only [mGoL, h22_2, ↓reduceIte])) (by first | with_reducible rfl | (simp only [sld_eq, eq_true h7_1, ↓reduceIte]; rw [← hR1]; simp only [mGoL, h22_2, ↓reduceIte]) | (rw [← hR1]; simp only [mGoL, h22_2, ↓reduceIte])) dX7_groupOffers_61
        · refine lv_iload_n hx hb dX7_groupOffers_25 rfl (lv_at hl 0 rfl) ?_
          refine lv_aload_n hx hb dX7_groupOffers_26 rfl (lv_at hl 2 rfl) ?_
          refine lv_iload_n hx hb dX7_groupOffers_27 rfl (lv_at hl 3 rfl) ?_
          refine lv_iload hx hb dX7_groupOffers_28 (lv_at hl 1 rfl) ?_
          refine rdV (w0 := (wMo G ad o (0, r.2))) (As := [.int st, .int (nI a)]) (rest := [.int x]) CF (k_X7_isOf l G ad o (0, r.2) st (nI a) (of_in (lt600 ha h22_2))) (cwV 2 hts gX7_groupOffers_X7_isOf rfl rfl rfl (by decide +kernel) ⟨Nat.le_of_ble_eq_true rfl, Nat.le_of_ble_eq_true rfl⟩) hP hY rfl rfl rfl hl.1 rfl (lv_room (Nat.le_of_ble_eq_true rfl)) dX7_groupOffers_30 ⟨Nat.zero_le _, Nat.zero_le _⟩ ?_
          refine lv_if_eq (tgt := 51) hx hb dX7_groupOffers_33 (by decide) (fun h33_3 => ?_) (fun h33_3 => ?_)
          · refine lv_iconst (v := 0) hx hb dX7_groupOffers_51 (by decide) ?_
            refine lv_iadd hx hb dX7_groupOffers_52 ?_
            refine lv_istore_n (lv' := [(3, .int (x + 0)), (4, .int (nI a)), (0, .ref (ad o)), (1, .int st), (2, .int gr)]) hx hb dX7_groupOffers_53 rfl hl (by decide) rfl (fun ls hl => ?_)
            refine lv_iinc (v := (nI a) + 1) (lv' := [(4, .int ((nI a) + 1)), (3, .int (x + 0)), (0, .ref (ad o)), (1, .int st), (2, .int gr)]) hx hb dX7_groupOffers_54 hl (k := 1) rfl rfl (by decide) rfl (fun ls hl => ?_)
            rw [show (nI a) + 1 = nI (a+1) from (nI_succ a).symm] at hl
            refine lv_goto (tgt := 17) hx hb dX7_groupOffers_57 (by decide) ?_
            exact ih (a+1) (x + 0) (by have := (lt600 ha h22_2); omega) (by rw [← hR1]; simp only [mGoL, h22_2, eq_true h33_3, ↓reduceIte]) (lt600 ha h22_2) _ _ ls hP hD hS (lv_sub hl [1, 0, 2, 3, 4] rfl)
          · refine lv_aload_n hx hb dX7_groupOffers_36 rfl (lv_at hl 2 rfl) ?_
            refine va_get (D := G.1) (ci := 7) (v := .ref (ad (o+4))) (C := RX7) (T := TX7) (N := 13) hx hb hts hiX7 hown hY.1 hP 0 rfl rfl 6 (by decide) kf26 (fun _ h9 => h9) rfl dX7_groupOffers_37 ?_
            refine lv_iload hx hb dX7_groupOffers_40 (lv_at hl 1 rfl) ?_
            refine va_iald hx hb hY.1 hP 4 0 rfl rfl (vp_nI (lt600 ha h22_2) (by decide)) dX7_groupOffers_42 ?_
            refine lv_iload_n hx hb dX7_groupOffers_43 rfl (lv_at hl 4 rfl) ?_
            refine lv_icmp_ne (tgt := 51) hx hb dX7_groupOffers_44 (by decide) (fun h44_4 => ?_) (fun h44_4 => ?_)
            · refine lv_iconst (v := 0) hx hb dX7_groupOffers_51 (by decide) ?_
              refine lv_iadd hx hb dX7_groupOffers_52 ?_
              refine lv_istore_n (lv' := [(3, .int (x + 0)), (4, .int (nI a)), (0, .ref (ad o)), (1, .int st), (2, .int gr)]) hx hb dX7_groupOffers_53 rfl hl (by decide) rfl (fun ls hl => ?_)
              refine lv_iinc (v := (nI a) + 1) (lv' := [(4, .int ((nI a) + 1)), (3, .int (x + 0)), (0, .ref (ad o)), (1, .int st), (2, .int gr)]) hx hb dX7_groupOffers_54 hl (k := 1) rfl rfl (by decide) rfl (fun ls hl => ?_)
              rw [show (nI a) + 1 = nI (a+1) from (nI_succ a).symm] at hl
              refine lv_goto (tgt := 17) hx hb dX7_groupOffers_57 (by decide) ?_
              exact ih (a+1) (x + 0) (by have := (lt600 ha h22_2); omega) (by rw [← hR1]; simp only [mGoL, h22_2, h33_3, h44_4, ↓reduceIte]) (lt600 ha h22_2) _ _ ls hP hD hS (lv_sub hl [1, 0, 2, 3, 4] rfl)
            · refine lv_iconst (v := 1) hx hb dX7_groupOffers_47 (by decide) ?_
              refine lv_goto (tgt := 52) hx hb dX7_groupOffers_48 (by decide) ?_
              refine lv_iadd hx hb dX7_groupOffers_52 ?_
              refine lv_istore_n (lv' := [(3, .int (x + 1)), (4, .int (nI a)), (0, .ref (ad o)), (1, .int st), (2, .int gr)]) hx hb dX7_groupOffers_53 rfl hl (by decide) rfl (fun ls hl => ?_)
              refine lv_iinc (v := (nI a) + 1) (lv' := [(4, .int ((nI a) + 1)), (3, .int (x + 1)), (0, .ref (ad o)), (1, .int st), (2, .int gr)]) hx hb dX7_groupOffers_54 hl (k := 1) rfl rfl (by decide) rfl (fun ls hl => ?_)
              rw [show (nI a) + 1 = nI (a+1) from (nI_succ a).symm] at hl
              refine lv_goto (tgt := 17) hx hb dX7_groupOffers_57 (by decide) ?_
              exact ih (a+1) (x + 1) (by have := (lt600 ha h22_2); omega) (by rw [← hR1]; simp only [mGoL, h22_2, h33_3, eq_true h44_4, ↓reduceIte]) (lt600 ha h22_2) _ _ ls hP hD hS (lv_sub hl [1, 0, 2, 3, 4] rfl)
    exact loop1 (600 - 0 + 1) 0 0 (Nat.lt_succ_self _) rfl (Nat.zero_le _) _ _ ls hP hD hS (lv_sub hl [1, 0, 2, 3, 4] rfl)
  · exact absurd rfl h7_1

set_option maxHeartbeats 4000000 in
set_option maxRecDepth 100000 in
theorem kn_X7_groupOffers (l : Launch) (G : GT) (ad : Nat → Nat) (o : Nat) (r : MoT) (st gr : Int32) (hk : ¬ (okA st 0 1 ∧ okA gr 0 3)) : Wr l yX7_groupOffers wsX7_groupOffers { frames := 2, cells := 0, slots := 0, locals := 45 } G (wMo G ad o r) (wMo G ad o (1, r.2)) [.ref (ad o), .int st, .int gr] (some (.int 0)) := by
  intro sz
  refine Met.ofW (cc := cX7_groupOffers) (maxL := 5) (ret := (some .int)) (by decide) rfl ?_
  intro p e s m args below meth c s₁ B hml hv
  obtain ⟨rfl, hsz, hP, hY, hD0⟩ := hv
  subst hsz
  have hD := hD0.self (sz := s.heap.size)
  generalize hAe : va_A (wMo G ad o r) s.heap.size = A at hD ⊢
  have hA : ∀ q : Nat, s.heap.size ≤ q → A q := fun q h => by rw [← hAe]; exact Or.inr h
  have hS : va_S A s.heap s.heap [] := va_S.rf
  have hx := B.exec
  have hb := B.bytes
  have hr := B.returns
  have hts := atoms_spec (ws := wsX7_groupOffers) B.pre
  have hown : s.vm.findClass RX7 = some m.cls := findClass_of_methodNamed B.named
  have hlk := B.notSynchronized
  have CF : CallFix p m c cX7_groupOffers 5 s _ wsX7_groupOffers RX7 := ⟨hx, hb, hml, hown, hts⟩
  have hl := lv_entry ([.ref (ad o), .int st, .int gr]) (n := 5) (Nat.le_of_ble_eq_true rfl)
  rw [lg_entry_eq]
  generalize (lg_sl ([.ref (ad o), .int st, .int gr]) ++ List.replicate (5 - (lg_sl ([.ref (ad o), .int st, .int gr])).length) Slot.unset).toArray = ls at hl ⊢
  have hl : lv_has ls 5 [(0, .ref (ad o)), (1, .int st), (2, .int gr)] := hl
  refine lv_aload_n hx hb dX7_groupOffers_0 rfl (lv_at hl 0 rfl) ?_
  refine lv_iload_n hx hb dX7_groupOffers_1 rfl (lv_at hl 1 rfl) ?_
  refine lv_iconst (v := 1) hx hb dX7_groupOffers_2 (by decide) ?_
  refine lv_iload_n hx hb dX7_groupOffers_3 rfl (lv_at hl 2 rfl) ?_
  refine wrV [] (wMo G ad o r) [] (wMo G ad o (1, r.2)) (As := [.int st, .int 1, .int gr]) (rest := []) CF (kn_X7_noGroup l G ad o r st 1 gr hk) (cwV 3 hts gX7_groupOffers_X7_noGroup rfl rfl rfl (by decide +kernel) ⟨Nat.le_of_ble_eq_true rfl, Nat.le_of_ble_eq_true rfl⟩) hP hD hS hA hY rfl rfl (fst_Mo _ _ _ _ _) rfl hl.1 rfl (lv_room (Nat.le_of_ble_eq_true rfl)) dX7_groupOffers_4 ⟨Nat.zero_le _, Nat.zero_le _⟩ (fun H locs hP hD hS => ?_)
  have hP : va_P G.1 vwCl (wMo G ad o (1, r.2)) H := hP
  have hD : va_D A (wMo G ad o (1, r.2)) := hD
  refine lv_if_eq (tgt := 12) hx hb dX7_groupOffers_7 (by decide) (fun h7_1 => ?_) (fun h7_1 => ?_)
  · exact absurd h7_1 (by decide)
  · refine lv_iconst (v := 0) hx hb dX7_groupOffers_10 (by decide) ?_
    exact wr_iret hx hb hr hlk hS hP (by first | with_reducible rfl | (simp only [sld_eq, h7_1, ↓reduceIte]; done)) (by first | with_reducible rfl | (simp only [sld_eq, h7_1, ↓reduceIte]; done)) dX7_groupOffers_11
