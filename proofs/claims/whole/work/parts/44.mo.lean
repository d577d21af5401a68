set_option maxHeartbeats 4000000 in
set_option maxRecDepth 100000 in
theorem k_X7_distinct (l : Launch) (G : GT) (ad : Nat → Nat) (o : Nat) (r : MoT) (st : Int32) : Wr l yX7_distinct wsX7_distinct { frames := 1, cells := 0, slots := 0, locals := 23 } G (wMo G ad o r) (wMo G ad o (r.1, r.2.1, r.2.2.1, r.2.2.2.1, r.2.2.2.2.1, r.2.2.2.2.2.1, r.2.2.2.2.2.2.1, r.2.2.2.2.2.2.2.1, r.2.2.2.2.2.2.2.2.1, (mDs r.2.2.2.1 r.2.2.2.2.1 st r.2.2.2.2.2.2.2.2.2.1).2, r.2.2.2.2.2.2.2.2.2.2.1, r.2.2.2.2.2.2.2.2.2.2.2.1, r.2.2.2.2.2.2.2.2.2.2.2.2)) [.ref (ad o), .int st] (some (.int ((mDs r.2.2.2.1 r.2.2.2.2.1 st r.2.2.2.2.2.2.2.2.2.1).1))) := by
  intro sz
  refine Met.ofW (cc := cX7_distinct) (maxL := 5) (ret := (some .int)) (by decide) rfl ?_
  intro p e s m args below meth c s₁ B hml hv
  obtain ⟨rfl, hsz, hP, hY, hD0⟩ := hv
  subst hsz
  have hD := hD0.self (sz := s.heap.size)
  generalize hAe : va_A (wMo G ad o r) s.heap.size = A at hD ⊢
  have hA : ∀ q : Nat, s.heap.size ≤ q → A q := fun q h => by rw [← hAe]; exact Or.inr h
  have hS : va_S A s.heap s.heap [] := va_S.rf
  have hx := B.exec
  have hb := B.bytes
  have hr := B.returns
  have hts := atoms_spec (ws := wsX7_distinct) B.pre
  have hown : s.vm.findClass RX7 = some m.cls := findClass_of_methodNamed B.named
  have hlk := B.notSynchronized
  have CF : CallFix p m c cX7_distinct 5 s _ wsX7_distinct RX7 := ⟨hx, hb, hml, hown, hts⟩
  have hiX7 : ∀ w ∈ wsX70, w ∈ wsX7_distinct := fun w h => (List.mem_cons_of_mem _ (List.mem_append_right _ h))
  have kf35 := hts (.fieldLink RX7 35 "ReservoirReedModel" "isNew" "[Z") (List.mem_cons_of_mem _ (List.mem_append_left _ (List.mem_of_getElem? (i := 0) rfl)))
  have kf20 := hts (.fieldLink RX7 20 "ReservoirReedModel" "items" "[I") (List.mem_cons_of_mem _ (List.mem_append_left _ (List.mem_of_getElem? (i := 1) rfl)))
  have hl := lv_entry ([.ref (ad o), .int st]) (n := 5) (Nat.le_of_ble_eq_true rfl)
  rw [lg_entry_eq]
  generalize (lg_sl ([.ref (ad o), .int st]) ++ List.replicate (5 - (lg_sl ([.ref (ad o), .int st])).length) Slot.unset).toArray = ls at hl ⊢
  have hl : lv_has ls 5 [(0, .ref (ad o)), (1, .int st)] := hl
  refine lv_iconst (v := 0) hx hb dX7_distinct_0 (by decide) ?_
  refine lv_istore_n (lv' := [(2, .int 0), (0, .ref (ad o)), (1, .int st)]) hx hb dX7_distinct_1 rfl hl (by decide) rfl (fun ls hl => ?_)
  refine lv_iconst (v := 0) hx hb dX7_distinct_2 (by decide) ?_
  refine lv_istore_n (lv' := [(3, .int 0), (2, .int 0), (0, .ref (ad o)), (1, .int st)]) hx hb dX7_distinct_3 rfl hl (by decide) rfl (fun ls hl => ?_)
  have loop1 : ∀ (fu : Nat) (a : Nat) (x : Int32) (u : Nat → Int32), 600 - a < fu → mDsL r.2.2.2.1 r.2.2.2.2.1 st fu a x u = mDsL r.2.2.2.1 r.2.2.2.2.1 st (600 - 0 + 1) 0 0 r.2.2.2.2.2.2.2.2.2.1 → a ≤ 600 → ∀ (H : Heap) (locs : List Loc) (ls : Array Slot), va_P G.1 vwCl (wMo G ad o (r.1, r.2.1, r.2.2.1, r.2.2.2.1, r.2.2.2.2.1, r.2.2.2.2.2.1, r.2.2.2.2.2.2.1, r.2.2.2.2.2.2.2.1, r.2.2.2.2.2.2.2.2.1, u, r.2.2.2.2.2.2.2.2.2.2.1, r.2.2.2.2.2.2.2.2.2.2.2.1, r.2.2.2.2.2.2.2.2.2.2.2.2)) H → va_D A (wMo G ad o (r.1, r.2.1, r.2.2.1, r.2.2.2.1, r.2.2.2.2.1, r.2.2.2.2.2.1, r.2.2.2.2.2.2.1, r.2.2.2.2.2.2.2.1, r.2.2.2.2.2.2.2.2.1, u, r.2.2.2.2.2.2.2.2.2.2.1, r.2.2.2.2.2.2.2.2.2.2.2.1, r.2.2.2.2.2.2.2.2.2.2.2.2)) → va_S A s.heap H locs → lv_has ls 5 [(2, .int x), (3, .int (nI a)), (0, .ref (ad o)), (1, .int st)] → W p l e (headSpec wsX7_distinct { frames := 1, cells := 0, slots := 0, locals := 23 }).room s m ([.ref (ad o), .int st] : List Value).toArray below meth c H locs 0 0 (MQ below (WQ (some (.int ((mDs r.2.2.2.1 r.2.2.2.2.1 st r.2.2.2.2.2.2.2.2.2.1).1))) G (wMo G ad o (r.1, r.2.1, r.2.2.1, r.2.2.2.1, r.2.2.2.2.1, r.2.2.2.2.2.1, r.2.2.2.2.2.2.1, r.2.2.2.2.2.2.2.1, r.2.2.2.2.2.2.2.2.1, (mDs r.2.2.2.1 r.2.2.2.2.1 st r.2.2.2.2.2.2.2.2.2.1).2, r.2.2.2.2.2.2.2.2.2.2.1, r.2.2.2.2.2.2.2.2.2.2.2.1, r.2.2.2.2.2.2.2.2.2.2.2.2)) A) ([.ref (ad o), .int st] : List Value).toArray s 0 0 A) (F0 m 4 ls []) := by
    intro fu
    induction fu with
    | zero => intro a x u hm; exact absurd hm (Nat.not_lt_zero _)
    | succ fu ih =>
      intro a x u hm hR1 hqa H locs ls hP hD hS hl
      refine lv_iload_n hx hb dX7_distinct_4 rfl (lv_at hl 1 rfl) ?_
      refine lv_sipush (v := 600) hx hb dX7_distinct_5 (by decide) ?_
      refine lv_icmp_ge (tgt := 107) hx hb dX7_distinct_8 (by decide) (fun h8_1 => ?_) (fun h8_1 => ?_)
      · refine lv_iload_n hx hb dX7_distinct_107 rfl (lv_at hl 0 rfl) ?_
        exact wr_iret hx hb hr hlk hS hP (by first | with_reducible rfl | (simp only [mDs, sld_eq, ↓reduceIte]; rw [← hR1]; simp only [mDsL, h8_1, ↓reduceIte]) | (rw [← hR1]; simp only [mDsL, h8_1, ↓reduceIte])) (by first | with_reducible rfl | (simp only [mDs, sld_eq, ↓reduceIte]; rw [← hR1]; simp only [mDsL, h8_1, ↓reduceIte]) | (rw [← hR1]; simp only [mDsL, h8_1, ↓reduceIte])) dX7_distinct_108
      · refine lv_aload_n hx hb dX7_distinct_11 rfl (lv_at hl 2 rfl) ?_
        refine va_get (D := G.1) (ci := 7) (v := .ref (ad (o+7))) (C := RX7) (T := TX7) (N := 13) hx hb hts hiX7 hown hY.1 hP 0 rfl rfl 9 (by decide) kf35 (fun _ h9 => h9) rfl dX7_distinct_12 ?_
        refine lv_iload_n hx hb dX7_distinct_15 rfl (lv_at hl 1 rfl) ?_
        refine lv_aload_n hx hb dX7_distinct_16 rfl (lv_at hl 2 rfl) ?_
        refine lv_iload_n hx hb dX7_distinct_17 rfl (lv_at hl 3 rfl) ?_
        refine lv_iload_n hx hb dX7_distinct_18 rfl (lv_at hl 1 rfl) ?_
        refine rdV (w0 := (wMo G ad o (r.1, r.2.1, r.2.2.1, r.2.2.2.1, r.2.2.2.2.1, r.2.2.2.2.2.1, r.2.2.2.2.2.2.1, r.2.2.2.2.2.2.2.1, r.2.2.2.2.2.2.2.2.1, u, r.2.2.2.2.2.2.2.2.2.2.1, r.2.2.2.2.2.2.2.2.2.2.2.1, r.2.2.2.2.2.2.2.2.2.2.2.2))) (As := [.int st, .int (nI a)]) (rest := [.int (nI a), .ref (ad (o+7))]) CF (k_X7_isOf l G ad o (r.1, r.2.1, r.2.2.1, r.2.2.2.1, r.2.2.2.2.1, r.2.2.2.2.2.1, r.2.2.2.2.2.2.1, r.2.2.2.2.2.2.2.1, r.2.2.2.2.2.2.2.2.1, u, r.2.2.2.2.2.2.2.2.2.2.1, r.2.2.2.2.2.2.2.2.2.2.2.1, r.2.2.2.2.2.2.2.2.2.2.2.2) st (nI a) (of_in (lt600 hqa h8_1))) (cwV 2 hts gX7_distinct_X7_isOf rfl rfl rfl (by decide +kernel) ⟨Nat.le_of_ble_eq_true rfl, Nat.le_of_ble_eq_true rfl⟩) hP hY rfl rfl rfl hl.1 rfl (lv_room (Nat.le_of_ble_eq_true rfl)) dX7_distinct_19 ⟨Nat.zero_le _, Nat.zero_le _⟩ ?_
        refine va_zast hx hb hY.1 hP hD hS 7 1 rfl rfl (vp_nI (lt600 hqa h8_1) (by decide)) dX7_distinct_22 (fun H locs hP hD hS => ?_)
        have hP : va_P G.1 vwCl (wMo G ad o (r.1, r.2.1, r.2.2.1, r.2.2.2.1, r.2.2.2.2.1, r.2.2.2.2.2.1, r.2.2.2.2.2.2.1, r.2.2.2.2.2.2.2.1, r.2.2.2.2.2.2.2.2.1, upd u (nI a).toNatClampNeg (vp_nar .boolean (mIsOf (r.1, r.2.1, r.2.2.1, r.2.2.2.1, r.2.2.2.2.1, r.2.2.2.2.2.1, r.2.2.2.2.2.2.1, r.2.2.2.2.2.2.2.1, r.2.2.2.2.2.2.2.2.1, u, r.2.2.2.2.2.2.2.2.2.2.1, r.2.2.2.2.2.2.2.2.2.2.2.1, r.2.2.2.2.2.2.2.2.2.2.2.2).2.2.2.1 st (nI a))), r.2.2.2.2.2.2.2.2.2.2.1, r.2.2.2.2.2.2.2.2.2.2.2.1, r.2.2.2.2.2.2.2.2.2.2.2.2)) H := hP
        have hD : va_D A (wMo G ad o (r.1, r.2.1, r.2.2.1, r.2.2.2.1, r.2.2.2.2.1, r.2.2.2.2.2.1, r.2.2.2.2.2.2.1, r.2.2.2.2.2.2.2.1, r.2.2.2.2.2.2.2.2.1, upd u (nI a).toNatClampNeg (vp_nar .boolean (mIsOf (r.1, r.2.1, r.2.2.1, r.2.2.2.1, r.2.2.2.2.1, r.2.2.2.2.2.1, r.2.2.2.2.2.2.1, r.2.2.2.2.2.2.2.1, r.2.2.2.2.2.2.2.2.1, u, r.2.2.2.2.2.2.2.2.2.2.1, r.2.2.2.2.2.2.2.2.2.2.2.1, r.2.2.2.2.2.2.2.2.2.2.2.2).2.2.2.1 st (nI a))), r.2.2.2.2.2.2.2.2.2.2.1, r.2.2.2.2.2.2.2.2.2.2.2.1, r.2.2.2.2.2.2.2.2.2.2.2.2)) := hD
        refine lv_iconst (v := 0) hx hb dX7_distinct_23 (by decide) ?_
        refine lv_istore (lv' := [(4, .int 0), (2, .int x), (3, .int (nI a)), (0, .ref (ad o)), (1, .int st)]) hx hb dX7_distinct_24 hl (by decide) rfl (fun ls hl => ?_)
        have loop2 : ∀ (fu2 : Nat) (b : Nat) (v : Nat → Int32), a - b < fu2 → mDsI r.2.2.2.1 r.2.2.2.2.1 st a fu2 b v = mDsI r.2.2.2.1 r.2.2.2.2.1 st a (a - 0 + 1) 0 (upd u (nI a).toNatClampNeg (vp_nar .boolean (mIsOf (r.1, r.2.1, r.2.2.1, r.2.2.2.1, r.2.2.2.2.1, r.2.2.2.2.2.1, r.2.2.2.2.2.2.1, r.2.2.2.2.2.2.2.1, r.2.2.2.2.2.2.2.2.1, u, r.2.2.2.2.2.2.2.2.2.2.1, r.2.2.2.2.2.2.2.2.2.2.2.1, r.2.2.2.2.2.2.2.2.2.2.2.2).2.2.2.1 st (nI a)))) → b ≤ a → ∀ (H : Heap) (locs : List Loc) (ls : Array Slot), va_P G.1 vwCl (wMo G ad o (r.1, r.2.1, r.2.2.1, r.2.2.2.1, r.2.2.2.2.1, r.2.2.2.2.2.1, r.2.2.2.2.2.2.1, r.2.2.2.2.2.2.2.1, r.2.2.2.2.2.2.2.2.1, v, r.2.2.2.2.2.2.2.2.2.2.1, r.2.2.2.2.2.2.2.2.2.2.2.1, r.2.2.2.2.2.2.2.2.2.2.2.2)) H → va_D A (wMo G ad o (r.1, r.2.1, r.2.2.1, r.2.2.2.1, r.2.2.2.2.1, r.2.2.2.2.2.1, r.2.2.2.2.2.2.1, r.2.2.2.2.2.2.2.1, r.2.2.2.2.2.2.2.2.1, v, r.2.2.2.2.2.2.2.2.2.2.1, r.2.2.2.2.2.2.2.2.2.2.2.1, r.2.2.2.2.2.2.2.2.2.2.2.2)) → va_S A s.heap H locs → lv_has ls 5 [(4, .int (nI b)), (2, .int x), (3, .int (nI a)), (0, .ref (ad o)), (1, .int st)] → W p l e (headSpec wsX7_distinct { frames := 1, cells := 0, slots := 0, locals := 23 }).room s m ([.ref (ad o), .int st] : List Value).toArray below meth c H locs 0 0 (MQ below (WQ (some (.int ((mDs r.2.2.2.1 r.2.2.2.2.1 st r.2.2.2.2.2.2.2.2.2.1).1))) G (wMo G ad o (r.1, r.2.1, r.2.2.1, r.2.2.2.1, r.2.2.2.2.1, r.2.2.2.2.2.1, r.2.2.2.2.2.2.1, r.2.2.2.2.2.2.2.1, r.2.2.2.2.2.2.2.2.1, (mDs r.2.2.2.1 r.2.2.2.2.1 st r.2.2.2.2.2.2.2.2.2.1).2, r.2.2.2.2.2.2.2.2.2.2.1, r.2.2.2.2.2.2.2.2.2.2.2.1, r.2.2.2.2.2.2.2.2.2.2.2.2)) A) ([.ref (ad o), .int st] : List Value).toArray s 0 0 A) (F0 m 26 ls []) := by
          intro fu2
          induction fu2 with
          | zero => intro b v hm; exact absurd hm (Nat.not_lt_zero _)
          | succ fu2 ih2 =>
            intro b v hm2 hR2 hqb H locs ls hP hD hS hl
            refine lv_iload hx hb dX7_distinct_26 (lv_at hl 0 rfl) ?_
            refine lv_iload_n hx hb dX7_distinct_28 rfl (lv_at hl 2 rfl) ?_
            refine lv_icmp_ge (tgt := 84) hx hb dX7_distinct_29 (by decide) (fun h29_2 => ?_) (fun h29_2 => ?_)
            · obtain rfl : v = (mDsI r.2.2.2.1 r.2.2.2.2.1 st a (a - 0 + 1) 0 (upd u (nI a).toNatClampNeg (vp_nar .boolean (mIsOf (r.1, r.2.1, r.2.2.1, r.2.2.2.1, r.2.2.2.2.1, r.2.2.2.2.2.1, r.2.2.2.2.2.2.1, r.2.2.2.2.2.2.2.1, r.2.2.2.2.2.2.2.2.1, u, r.2.2.2.2.2.2.2.2.2.2.1, r.2.2.2.2.2.2.2.2.2.2.2.1, r.2.2.2.2.2.2.2.2.2.2.2.2).2.2.2.1 st (nI a))))) := by rw [← hR2]; simp only [mDsI, h29_2, ↓reduceIte]
              refine lv_iload_n hx hb dX7_distinct_84 rfl (lv_at hl 1 rfl) ?_
              refine lv_aload_n hx hb dX7_distinct_85 rfl (lv_at hl 3 rfl) ?_
              refine va_get (D := G.1) (ci := 7) (v := .ref (ad (o+7))) (C := RX7) (T := TX7) (N := 13) hx hb hts hiX7 hown hY.1 hP 0 rfl rfl 9 (by decide) kf35 (fun _ h9 => h9) rfl dX7_distinct_86 ?_
              refine lv_iload_n hx hb dX7_distinct_89 rfl (lv_at hl 2 rfl) ?_
              refine va_zald hx hb hY.1 hP 7 1 rfl rfl (vp_nI (lt600 hqa h8_1) (by decide)) dX7_distinct_90 ?_
              refine lv_if_eq (tgt := 98) hx hb dX7_distinct_91 (by decide) (fun h91_3 => ?_) (fun h91_3 => ?_)
              · refine lv_iconst (v := 0) hx hb dX7_distinct_98 (by decide) ?_
                refine lv_iadd hx hb dX7_distinct_99 ?_
                refine lv_istore_n (lv' := [(2, .int (x + 0)), (4, .int (nI b)), (3, .int (nI a)), (0, .ref (ad o)), (1, .int st)]) hx hb dX7_distinct_100 rfl hl (by decide) rfl (fun ls hl => ?_)
                refine lv_iinc (v := (nI a) + 1) (lv' := [(3, .int ((nI a) + 1)), (2, .int (x + 0)), (4, .int (nI b)), (0, .ref (ad o)), (1, .int st)]) hx hb dX7_distinct_101 hl (k := 2) rfl rfl (by decide) rfl (fun ls hl => ?_)
                rw [show (nI a) + 1 = nI (a+1) from (nI_succ a).symm] at hl
                refine lv_goto (tgt := 4) hx hb dX7_distinct_104 (by decide) ?_
                exact ih (a+1) (x + 0) ((mDsI r.2.2.2.1 r.2.2.2.2.1 st a (a - 0 + 1) 0 (upd u (nI a).toNatClampNeg (vp_nar .boolean (mIsOf (r.1, r.2.1, r.2.2.1, r.2.2.2.1, r.2.2.2.2.1, r.2.2.2.2.2.1, r.2.2.2.2.2.2.1, r.2.2.2.2.2.2.2.1, r.2.2.2.2.2.2.2.2.1, u, r.2.2.2.2.2.2.2.2.2.2.1, r.2.2.2.2.2.2.2.2.2.2.2.1, r.2.2.2.2.2.2.2.2.2.2.2.2).2.2.2.1 st (nI a)))))) (by have := (lt600 hqa h8_1); omega) (by rw [← hR1]; simp only [mDsL, h8_1, eq_true h91_3, ↓reduceIte]) (lt600 hqa h8_1) _ _ ls hP hD hS (lv_sub hl [1, 0, 3, 4] rfl)
              · refine lv_iconst (v := 1) hx hb dX7_distinct_94 (by decide) ?_
                refine lv_goto (tgt := 99) hx hb dX7_distinct_95 (by decide) ?_
                refine lv_iadd hx hb dX7_distinct_99 ?_
                refine lv_istore_n (lv' := [(2, .int (x + 1)), (4, .int (nI b)), (3, .int (nI a)), (0, .ref (ad o)), (1, .int st)]) hx hb dX7_distinct_100 rfl hl (by decide) rfl (fun ls hl => ?_)
                refine lv_iinc (v := (nI a) + 1) (lv' := [(3, .int ((nI a) + 1)), (2, .int (x + 1)), (4, .int (nI b)), (0, .ref (ad o)), (1, .int st)]) hx hb dX7_distinct_101 hl (k := 2) rfl rfl (by decide) rfl (fun ls hl => ?_)
                rw [show (nI a) + 1 = nI (a+1) from (nI_succ a).symm] at hl
                refine lv_goto (tgt := 4) hx hb dX7_distinct_104 (by decide) ?_
                exact ih (a+1) (x + 1) ((mDsI r.2.2.2.1 r.2.2.2.2.1 st a (a - 0 + 1) 0 (upd u (nI a).toNatClampNeg (vp_nar .boolean (mIsOf (r.1, r.2.1, r.2.2.1, r.2.2.2.1, r.2.2.2.2.1, r.2.2.2.2.2.1, r.2.2.2.2.2.2.1, r.2.2.2.2.2.2.2.1, r.2.2.2.2.2.2.2.2.1, u, r.2.2.2.2.2.2.2.2.2.2.1, r.2.2.2.2.2.2.2.2.2.2.2.1, r.2.2.2.2.2.2.2.2.2.2.2.2).2.2.2.1 st (nI a)))))) (by have := (lt600 hqa h8_1); omega) (by rw [← hR1]; simp only [mDsL, h8_1, h91_3, ↓reduceIte]) (lt600 hqa h8_1) _ _ ls hP hD hS (lv_sub hl [1, 0, 3, 4] rfl)
            · refine lv_aload_n hx hb dX7_distinct_32 rfl (lv_at hl 3 rfl) ?_
              refine va_get (D := G.1) (ci := 7) (v := .ref (ad (o+7))) (C := RX7) (T := TX7) (N := 13) hx hb hts hiX7 hown hY.1 hP 0 rfl rfl 9 (by decide) kf35 (fun _ h9 => h9) rfl dX7_distinct_33 ?_
              refine lv_iload_n hx hb dX7_distinct_36 rfl (lv_at hl 2 rfl) ?_
              refine va_zald hx hb hY.1 hP 7 1 rfl rfl (vp_nI (lt600 hqa h8_1) (by decide)) dX7_distinct_37 ?_
              refine lv_if_eq (tgt := 84) hx hb dX7_distinct_38 (by decide) (fun h38_4 => ?_) (fun h38_4 => ?_)
              · obtain rfl : v = (mDsI r.2.2.2.1 r.2.2.2.2.1 st a (a - 0 + 1) 0 (upd u (nI a).toNatClampNeg (vp_nar .boolean (mIsOf (r.1, r.2.1, r.2.2.1, r.2.2.2.1, r.2.2.2.2.1, r.2.2.2.2.2.1, r.2.2.2.2.2.2.1, r.2.2.2.2.2.2.2.1, r.2.2.2.2.2.2.2.2.1, u, r.2.2.2.2.2.2.2.2.2.2.1, r.2.2.2.2.2.2.2.2.2.2.2.1, r.2.2.2.2.2.2.2.2.2.2.2.2).2.2.2.1 st (nI a))))) := by rw [← hR2]; simp only [mDsI, h29_2, eq_true h38_4, ↓reduceIte]
                refine lv_iload_n hx hb dX7_distinct_84 rfl (lv_at hl 1 rfl) ?_
                refine lv_aload_n hx hb dX7_distinct_85 rfl (lv_at hl 3 rfl) ?_
                refine va_get (D := G.1) (ci := 7) (v := .ref (ad (o+7))) (C := RX7) (T := TX7) (N := 13) hx hb hts hiX7 hown hY.1 hP 0 rfl rfl 9 (by decide) kf35 (fun _ h9 => h9) rfl dX7_distinct_86 ?_
                refine lv_iload_n hx hb dX7_distinct_89 rfl (lv_at hl 2 rfl) ?_
                refine va_zald hx hb hY.1 hP 7 1 rfl rfl (vp_nI (lt600 hqa h8_1) (by decide)) dX7_distinct_90 ?_
                refine lv_if_eq (tgt := 98) hx hb dX7_distinct_91 (by decide) (fun h91_5 => ?_) (fun h91_5 => ?_)
                · refine lv_iconst (v := 0) hx hb dX7_distinct_98 (by decide) ?_
                  refine lv_iadd hx hb dX7_distinct_99 ?_
                  refine lv_istore_n (lv' := [(2, .int (x + 0)), (4, .int (nI b)), (3, .int (nI a)), (0, .ref (ad o)), (1, .int st)]) hx hb dX7_distinct_100 rfl hl (by decide) rfl (fun ls hl => ?_)
                  refine lv_iinc (v := (nI a) + 1) (lv' := [(3, .int ((nI a) + 1)), (2, .int (x + 0)), (4, .int (nI b)), (0, .ref (ad o)), (1, .int st)]) hx hb dX7_distinct_101 hl (k := 2) rfl rfl (by decide) rfl (fun ls hl => ?_)
                  rw [show (nI a) + 1 = nI (a+1) from (nI_succ a).symm] at hl
                  refine lv_goto (tgt := 4) hx hb dX7_distinct_104 (by decide) ?_
                  exact ih (a+1) (x + 0) ((mDsI r.2.2.2.1 r.2.2.2.2.1 st a (a - 0 + 1) 0 (upd u (nI a).toNatClampNeg (vp_nar .boolean (mIsOf (r.1, r.2.1, r.2.2.1, r.2.2.2.1, r.2.2.2.2.1, r.2.2.2.2.2.1, r.2.2.2.2.2.2.1, r.2.2.2.2.2.2.2.1, r.2.2.2.2.2.2.2.2.1, u, r.2.2.2.2.2.2.2.2.2.2.1, r.2.2.2.2.2.2.2.2.2.2.2.1, r.2.2.2.2.2.2.2.2.2.2.2.2).2.2.2.1 st (nI a)))))) (by have := (lt600 hqa h8_1); omega) (by rw [← hR1]; simp only [mDsL, h8_1, eq_true h91_5, ↓reduceIte]) (lt600 hqa h8_1) _ _ ls hP hD hS (lv_sub hl [1, 0, 3, 4] rfl)
                · refine lv_iconst (v := 1) hx hb dX7_distinct_94 (by decide) ?_
                  refine lv_goto (tgt := 99) hx hb dX7_distinct_95 (by decide) ?_
                  refine lv_iadd hx hb dX7_distinct_99 ?_
                  refine lv_istore_n (lv' := [(2, .int (x + 1)), (4, .int (nI b)), (3, .int (nI a)), (0, .ref (ad o)), (1, .int st)]) hx hb dX7_distinct_100 rfl hl (by decide) rfl (fun ls hl => ?_)
                  refine lv_iinc (v := (nI a) + 1) (lv' := [(3, .int ((nI a) + 1)), (2, .int (x + 1)), (4, .int (nI b)), (0, .ref (ad o)), (1, .int st)]) hx hb dX7_distinct_101 hl (k := 2) rfl rfl (by decide) rfl (fun ls hl => ?_)
                  rw [show (nI a) + 1 = nI (a+1) from (nI_succ a).symm] at hl
                  refine lv_goto (tgt := 4) hx hb dX7_distinct_104 (by decide) ?_
                  exact ih (a+1) (x + 1) ((mDsI r.2.2.2.1 r.2.2.2.2.1 st a (a - 0 + 1) 0 (upd u (nI a).toNatClampNeg (vp_nar .boolean (mIsOf (r.1, r.2.1, r.2.2.1, r.2.2.2.1, r.2.2.2.2.1, r.2.2.2.2.2.1, r.2.2.2.2.2.2.1, r.2.2.2.2.2.2.2.1, r.2.2.2.2.2.2.2.2.1, u, r.2.2.2.2.2.2.2.2.2.2.1, r.2.2.2.2.2.2.2.2.2.2.2.1, r.2.2.2.2.2.2.2.2.2.2.2.2).2.2.2.1 st (nI a)))))) (by have := (lt600 hqa h8_1); omega) (by rw [← hR1]; simp only [mDsL, h8_1, h91_5, ↓reduceIte]) (lt600 hqa h8_1) _ _ ls hP hD hS (lv_sub hl [1, 0, 3, 4] rfl)
              · refine lv_aload_n hx hb dX7_distinct_41 rfl (lv_at hl 3 rfl) ?_
                refine va_get (D := G.1) (ci := 7) (v := .ref (ad (o+7))) (C := RX7) (T := TX7) (N := 13) hx hb hts hiX7 hown hY.1 hP 0 rfl rfl 9 (by decide) kf35 (fun _ h9 => h9) rfl dX7_distinct_42 ?_
                refine lv_iload_n hx hb dX7_distinct_45 rfl (lv_at hl 2 rfl) ?_
                refine lv_aload_n hx hb dX7_distinct_46 rfl (lv_at hl 3 rfl) ?_
                refine lv_iload_n hx hb dX7_distinct_47 rfl (lv_at hl 4 rfl) ?_
                refine lv_iload hx hb dX7_distinct_48 (lv_at hl 0 rfl) ?_
                refine rdV (w0 := (wMo G ad o (r.1, r.2.1, r.2.2.1, r.2.2.2.1, r.2.2.2.2.1, r.2.2.2.2.2.1, r.2.2.2.2.2.2.1, r.2.2.2.2.2.2.2.1, r.2.2.2.2.2.2.2.2.1, v, r.2.2.2.2.2.2.2.2.2.2.1, r.2.2.2.2.2.2.2.2.2.2.2.1, r.2.2.2.2.2.2.2.2.2.2.2.2))) (As := [.int st, .int (nI b)]) (rest := [.int (nI a), .ref (ad (o+7))]) CF (k_X7_isOf l G ad o (r.1, r.2.1, r.2.2.1, r.2.2.2.1, r.2.2.2.2.1, r.2.2.2.2.2.1, r.2.2.2.2.2.2.1, r.2.2.2.2.2.2.2.1, r.2.2.2.2.2.2.2.2.1, v, r.2.2.2.2.2.2.2.2.2.2.1, r.2.2.2.2.2.2.2.2.2.2.2.1, r.2.2.2.2.2.2.2.2.2.2.2.2) st (nI b) (of_in (Nat.lt_trans (lt_nI (lt600 hqa h8_1) hqb h29_2) (lt600 hqa h8_1)))) (cwV 2 hts gX7_distinct_X7_isOf rfl rfl rfl (by decide +kernel) ⟨Nat.le_of_ble_eq_true rfl, Nat.le_of_ble_eq_true rfl⟩) hP hY rfl rfl rfl hl.1 rfl (lv_room (Nat.le_of_ble_eq_true rfl)) dX7_distinct_50 ⟨Nat.zero_le _, Nat.zero_le _⟩ ?_
                refine lv_if_eq (tgt := 72) hx hb dX7_distinct_53 (by decide) (fun h53_6 => ?_) (fun h53_6 => ?_)
                · refine lv_iconst (v := 1) hx hb dX7_distinct_72 (by decide) ?_
                  refine lv_goto (tgt := 77) hx hb dX7_distinct_73 (by decide) ?_
                  refine va_zast hx hb hY.1 hP hD hS 7 1 rfl rfl (vp_nI (lt600 hqa h8_1) (by decide)) dX7_distinct_77 (fun H locs hP hD hS => ?_)
                  have hP : va_P G.1 vwCl (wMo G ad o (r.1, r.2.1, r.2.2.1, r.2.2.2.1, r.2.2.2.2.1, r.2.2.2.2.2.1, r.2.2.2.2.2.2.1, r.2.2.2.2.2.2.2.1, r.2.2.2.2.2.2.2.2.1, upd v (nI a).toNatClampNeg (vp_nar .boolean 1), r.2.2.2.2.2.2.2.2.2.2.1, r.2.2.2.2.2.2.2.2.2.2.2.1, r.2.2.2.2.2.2.2.2.2.2.2.2)) H := hP
                  have hD : va_D A (wMo G ad o (r.1, r.2.1, r.2.2.1, r.2.2.2.1, r.2.2.2.2.1, r.2.2.2.2.2.1, r.2.2.2.2.2.2.1, r.2.2.2.2.2.2.2.1, r.2.2.2.2.2.2.2.2.1, upd v (nI a).toNatClampNeg (vp_nar .boolean 1), r.2.2.2.2.2.2.2.2.2.2.1, r.2.2.2.2.2.2.2.2.2.2.2.1, r.2.2.2.2.2.2.2.2.2.2.2.2)) := hD
                  refine lv_iinc (v := (nI b) + 1) (lv' := [(4, .int ((nI b) + 1)), (2, .int x), (3, .int (nI a)), (0, .ref (ad o)), (1, .int st)]) hx hb dX7_distinct_78 hl (k := 0) rfl rfl (by decide) rfl (fun ls hl => ?_)
                  rw [show (nI b) + 1 = nI (b+1) from (nI_succ b).symm] at hl
                  refine lv_goto (tgt := 26) hx hb dX7_distinct_81 (by decide) ?_
                  exact ih2 (b+1) (upd v (nI a).toNatClampNeg (vp_nar .boolean 1)) (by have := (lt_nI (lt600 hqa h8_1) hqb h29_2); omega) (by rw [← hR2]; simp only [mDsI, h29_2, h38_4, eq_true h53_6, ↓reduceIte]) (lt_nI (lt600 hqa h8_1) hqb h29_2) _ _ ls hP hD hS (lv_sub hl [0, 1, 2, 3, 4] rfl)
                · refine lv_aload_n hx hb dX7_distinct_56 rfl (lv_at hl 3 rfl) ?_
                  refine va_get (D := G.1) (ci := 7) (v := .ref (ad (o+2))) (C := RX7) (T := TX7) (N := 13) hx hb hts hiX7 hown hY.1 hP 0 rfl rfl 4 (by decide) kf20 (fun _ h9 => h9) rfl dX7_distinct_57 ?_
                  refine lv_iload hx hb dX7_distinct_60 (lv_at hl 0 rfl) ?_
                  refine va_iald hx hb hY.1 hP 2 0 rfl rfl (vp_nI (Nat.lt_trans (lt_nI (lt600 hqa h8_1) hqb h29_2) (lt600 hqa h8_1)) (by decide)) dX7_distinct_62 ?_
                  refine lv_aload_n hx hb dX7_distinct_63 rfl (lv_at hl 3 rfl) ?_
                  refine va_get (D := G.1) (ci := 7) (v := .ref (ad (o+2))) (C := RX7) (T := TX7) (N := 13) hx hb hts hiX7 hown hY.1 hP 0 rfl rfl 4 (by decide) kf20 (fun _ h9 => h9) rfl dX7_distinct_64 ?_
                  refine lv_iload_n hx hb dX7_distinct_67 rfl (lv_at hl 2 rfl) ?_
                  refine va_iald hx hb hY.1 hP 2 0 rfl rfl (vp_nI (lt600 hqa h8_1) (by decide)) dX7_distinct_68 ?_
                  refine lv_icmp_eq (tgt := 76) hx hb dX7_distinct_69 (by decide) (fun h69_7 => ?_) (fun h69_7 => ?_)
                  · refine lv_iconst (v := 0) hx hb dX7_distinct_76 (by decide) ?_
                    refine va_zast hx hb hY.1 hP hD hS 7 1 rfl rfl (vp_nI (lt600 hqa h8_1) (by decide)) dX7_distinct_77 (fun H locs hP hD hS => ?_)
                    have hP : va_P G.1 vwCl (wMo G ad o (r.1, r.2.1, r.2.2.1, r.2.2.2.1, r.2.2.2.2.1, r.2.2.2.2.2.1, r.2.2.2.2.2.2.1, r.2.2.2.2.2.2.2.1, r.2.2.2.2.2.2.2.2.1, upd v (nI a).toNatClampNeg (vp_nar .boolean 0), r.2.2.2.2.2.2.2.2.2.2.1, r.2.2.2.2.2.2.2.2.2.2.2.1, r.2.2.2.2.2.2.2.2.2.2.2.2)) H := hP
                    have hD : va_D A (wMo G ad o (r.1, r.2.1, r.2.2.1, r.2.2.2.1, r.2.2.2.2.1, r.2.2.2.2.2.1, r.2.2.2.2.2.2.1, r.2.2.2.2.2.2.2.1, r.2.2.2.2.2.2.2.2.1, upd v (nI a).toNatClampNeg (vp_nar .boolean 0), r.2.2.2.2.2.2.2.2.2.2.1, r.2.2.2.2.2.2.2.2.2.2.2.1, r.2.2.2.2.2.2.2.2.2.2.2.2)) := hD
                    refine lv_iinc (v := (nI b) + 1) (lv' := [(4, .int ((nI b) + 1)), (2, .int x), (3, .int (nI a)), (0, .ref (ad o)), (1, .int st)]) hx hb dX7_distinct_78 hl (k := 0) rfl rfl (by decide) rfl (fun ls hl => ?_)
                    rw [show (nI b) + 1 = nI (b+1) from (nI_succ b).symm] at hl
                    refine lv_goto (tgt := 26) hx hb dX7_distinct_81 (by decide) ?_
                    exact ih2 (b+1) (upd v (nI a).toNatClampNeg (vp_nar .boolean 0)) (by have := (lt_nI (lt600 hqa h8_1) hqb h29_2); omega) (by rw [← hR2]; simp only [mDsI, h29_2, h38_4, h53_6, eq_true h69_7, ↓reduceIte]) (lt_nI (lt600 hqa h8_1) hqb h29_2) _ _ ls hP hD hS (lv_sub hl [0, 1, 2, 3, 4] rfl)
                  · refine lv_iconst (v := 1) hx hb dX7_distinct_72 (by decide) ?_
                    refine lv_goto (tgt := 77) hx hb dX7_distinct_73 (by decide) ?_
                    refine va_zast hx hb hY.1 hP hD hS 7 1 rfl rfl (vp_nI (lt600 hqa h8_1) (by decide)) dX7_distinct_77 (fun H locs hP hD hS => ?_)
                    have hP : va_P G.1 vwCl (wMo G ad o (r.1, r.2.1, r.2.2.1, r.2.2.2.1, r.2.2.2.2.1, r.2.2.2.2.2.1, r.2.2.2.2.2.2.1, r.2.2.2.2.2.2.2.1, r.2.2.2.2.2.2.2.2.1, upd v (nI a).toNatClampNeg (vp_nar .boolean 1), r.2.2.2.2.2.2.2.2.2.2.1, r.2.2.2.2.2.2.2.2.2.2.2.1, r.2.2.2.2.2.2.2.2.2.2.2.2)) H := hP
                    have hD : va_D A (wMo G ad o (r.1, r.2.1, r.2.2.1, r.2.2.2.1, r.2.2.2.2.1, r.2.2.2.2.2.1, r.2.2.2.2.2.2.1, r.2.2.2.2.2.2.2.1, r.2.2.2.2.2.2.2.2.1, upd v (nI a).toNatClampNeg (vp_nar .boolean 1), r.2.2.2.2.2.2.2.2.2.2.1, r.2.2.2.2.2.2.2.2.2.2.2.1, r.2.2.2.2.2.2.2.2.2.2.2.2)) := hD
                    refine lv_iinc (v := (nI b) + 1) (lv' := [(4, .int ((nI b) + 1)), (2, .int x), (3, .int (nI a)), (0, .ref (ad o)), (1, .int st)]) hx hb dX7_distinct_78 hl (k := 0) rfl rfl (by decide) rfl (fun ls hl => ?_)
                    rw [show (nI b) + 1 = nI (b+1) from (nI_succ b).symm] at hl
                    refine lv_goto (tgt := 26) hx hb dX7_distinct_81 (by decide) ?_
                    exact ih2 (b+1) (upd v (nI a).toNatClampNeg (vp_nar .boolean 1)) (by have := (lt_nI (lt600 hqa h8_1) hqb h29_2); omega) (by rw [← hR2]; simp only [mDsI, h29_2, h38_4, h53_6, h69_7, ↓reduceIte]) (lt_nI (lt600 hqa h8_1) hqb h29_2) _ _ ls hP hD hS (lv_sub hl [0, 1, 2, 3, 4] rfl)
        exact loop2 (a - 0 + 1) 0 (upd u (nI a).toNatClampNeg (vp_nar .boolean (mIsOf (r.1, r.2.1, r.2.2.1, r.2.2.2.1, r.2.2.2.2.1, r.2.2.2.2.2.1, r.2.2.2.2.2.2.1, r.2.2.2.2.2.2.2.1, r.2.2.2.2.2.2.2.2.1, u, r.2.2.2.2.2.2.2.2.2.2.1, r.2.2.2.2.2.2.2.2.2.2.2.1, r.2.2.2.2.2.2.2.2.2.2.2.2).2.2.2.1 st (nI a)))) (Nat.lt_succ_self _) rfl (Nat.zero_le _) _ _ ls hP hD hS (lv_sub hl [0, 1, 2, 3, 4] rfl)
  exact loop1 (600 - 0 + 1) 0 0 r.2.2.2.2.2.2.2.2.2.1 (Nat.lt_succ_self _) rfl (Nat.zero_le _) _ _ ls hP hD hS (lv_sub hl [1, 0, 2, 3] rfl)

set_option maxHeartbeats 4000000 in
set_option maxRecDepth 100000 in
theorem k_X7_distinctIn (l : Launch) (G : GT) (ad : Nat → Nat) (o : Nat) (r : MoT) (st : Int32) : Wr l yX7_distinctIn wsX7_distinctIn { frames := 2, cells := 0, slots := 0, locals := 47 } G (wMo G ad o r) (wMo G ad o (r.1, r.2.1, r.2.2.1, r.2.2.2.1, r.2.2.2.2.1, r.2.2.2.2.2.1, r.2.2.2.2.2.2.1, r.2.2.2.2.2.2.2.1, r.2.2.2.2.2.2.2.2.1, (mDs r.2.2.2.1 r.2.2.2.2.1 st r.2.2.2.2.2.2.2.2.2.1).2, r.2.2.2.2.2.2.2.2.2.2.1, r.2.2.2.2.2.2.2.2.2.2.2.1, r.2.2.2.2.2.2.2.2.2.2.2.2)) [.ref (ad o), .int st] (some (.int (mDn r.2.2.2.1 r.2.2.2.2.1 r.2.1 st r.2.2.2.2.2.2.2.2.2.1))) := by
  intro sz
  refine Met.ofW (cc := cX7_distinctIn) (maxL := 3) (ret := (some .int)) (by decide) rfl ?_
  intro p e s m args below meth c s₁ B hml hv
  obtain ⟨rfl, hsz, hP, hY, hD0⟩ := hv
  subst hsz
  have hD := hD0.self (sz := s.heap.size)
  generalize hAe : va_A (wMo G ad o r) s.heap.size = A at hD ⊢
  have hA : ∀ q : Nat, s.heap.size ≤ q → A q := fun q h => by rw [← hAe]; exact Or.inr h
  have hS : va_S A s.heap s.heap [] := va_S.rf
  have hx := B.exec
  have hb := B.bytes
  have hr := B.returns
  have hts := atoms_spec (ws := wsX7_distinctIn) B.pre
  have hown : s.vm.findClass RX7 = some m.cls := findClass_of_methodNamed B.named
  have hlk := B.notSynchronized
  have CF : CallFix p m c cX7_distinctIn 3 s _ wsX7_distinctIn RX7 := ⟨hx, hb, hml, hown, hts⟩
  have hiX7 : ∀ w ∈ wsX70, w ∈ wsX7_distinctIn := fun w h => (List.mem_cons_of_mem _ (List.mem_append_right _ h))
  have kf7 := hts (.fieldLink RX7 7 "ReservoirReedModel" "size" "I") (List.mem_cons_of_mem _ (List.mem_append_left _ (List.mem_of_getElem? (i := 0) rfl)))
  have hl := lv_entry ([.ref (ad o), .int st]) (n := 3) (Nat.le_of_ble_eq_true rfl)
  rw [lg_entry_eq]
  generalize (lg_sl ([.ref (ad o), .int st]) ++ List.replicate (3 - (lg_sl ([.ref (ad o), .int st])).length) Slot.unset).toArray = ls at hl ⊢
  have hl : lv_has ls 3 [(0, .ref (ad o)), (1, .int st)] := hl
  refine lv_aload_n hx hb dX7_distinctIn_0 rfl (lv_at hl 0 rfl) ?_
  refine lv_iload_n hx hb dX7_distinctIn_1 rfl (lv_at hl 1 rfl) ?_
  refine wrV [] (wMo G ad o r) [] (wMo G ad o (r.1, r.2.1, r.2.2.1, r.2.2.2.1, r.2.2.2.2.1, r.2.2.2.2.2.1, r.2.2.2.2.2.2.1, r.2.2.2.2.2.2.2.1, r.2.2.2.2.2.2.2.2.1, (mDs r.2.2.2.1 r.2.2.2.2.1 st r.2.2.2.2.2.2.2.2.2.1).2, r.2.2.2.2.2.2.2.2.2.2.1, r.2.2.2.2.2.2.2.2.2.2.2.1, r.2.2.2.2.2.2.2.2.2.2.2.2)) (As := [.int st]) (rest := []) CF (k_X7_distinct l G ad o r st) (cwV 1 hts gX7_distinctIn_X7_distinct rfl rfl rfl (by decide +kernel) ⟨Nat.le_of_ble_eq_true rfl, Nat.le_of_ble_eq_true rfl⟩) hP hD hS hA hY rfl rfl (fst_Mo _ _ _ _ _) rfl hl.1 rfl (lv_room (Nat.le_of_ble_eq_true rfl)) dX7_distinctIn_2 ⟨Nat.zero_le _, Nat.zero_le _⟩ (fun H locs hP hD hS => ?_)
  have hP : va_P G.1 vwCl (wMo G ad o (r.1, r.2.1, r.2.2.1, r.2.2.2.1, r.2.2.2.2.1, r.2.2.2.2.2.1, r.2.2.2.2.2.2.1, r.2.2.2.2.2.2.2.1, r.2.2.2.2.2.2.2.2.1, (mDs r.2.2.2.1 r.2.2.2.2.1 st r.2.2.2.2.2.2.2.2.2.1).2, r.2.2.2.2.2.2.2.2.2.2.1, r.2.2.2.2.2.2.2.2.2.2.2.1, r.2.2.2.2.2.2.2.2.2.2.2.2)) H := hP
  have hD : va_D A (wMo G ad o (r.1, r.2.1, r.2.2.1, r.2.2.2.1, r.2.2.2.2.1, r.2.2.2.2.2.1, r.2.2.2.2.2.2.1, r.2.2.2.2.2.2.2.1, r.2.2.2.2.2.2.2.2.1, (mDs r.2.2.2.1 r.2.2.2.2.1 st r.2.2.2.2.2.2.2.2.2.1).2, r.2.2.2.2.2.2.2.2.2.2.1, r.2.2.2.2.2.2.2.2.2.2.2.1, r.2.2.2.2.2.2.2.2.2.2.2.2)) := hD
  refine lv_istore_n (lv' := [(2, .int ((mDs r.2.2.2.1 r.2.2.2.2.1 st r.2.2.2.2.2.2.2.2.2.1).1)), (0, .ref (ad o)), (1, .int st)]) hx hb dX7_distinctIn_5 rfl hl (by decide) rfl (fun ls hl => ?_)
  refine lv_iload_n hx hb dX7_distinctIn_6 rfl (lv_at hl 0 rfl) ?_
  refine lv_aload_n hx hb dX7_distinctIn_7 rfl (lv_at hl 1 rfl) ?_
  refine va_get (D := G.1) (ci := 7) (v := .int r.2.1) (C := RX7) (T := TX7) (N := 13) hx hb hts hiX7 hown hY.1 hP 0 rfl rfl 1 (by decide) kf7 (fun _ h9 => h9) rfl dX7_distinctIn_8 ?_
  refine lv_icmp_ge (tgt := 18) hx hb dX7_distinctIn_11 (by decide) (fun h11_1 => ?_) (fun h11_1 => ?_)
  · refine lv_aload_n hx hb dX7_distinctIn_18 rfl (lv_at hl 1 rfl) ?_
    refine va_get (D := G.1) (ci := 7) (v := .int r.2.1) (C := RX7) (T := TX7) (N := 13) hx hb hts hiX7 hown hY.1 hP 0 rfl rfl 1 (by decide) kf7 (fun _ h9 => h9) rfl dX7_distinctIn_19 ?_
    exact wr_iret hx hb hr hlk hS hP (by first | with_reducible rfl | (simp only [mDn, sld_eq, h11_1, ↓reduceIte]; done)) (by first | with_reducible rfl | (simp only [mDn, sld_eq, h11_1, ↓reduceIte]; done)) dX7_distinctIn_22
  · refine lv_iload_n hx hb dX7_distinctIn_14 rfl (lv_at hl 0 rfl) ?_
    refine lv_goto (tgt := 22) hx hb dX7_distinctIn_15 (by decide) ?_
    exact wr_iret hx hb hr hlk hS hP (by first | with_reducible rfl | (simp only [mDn, sld_eq, h11_1, ↓reduceIte]; done)) (by first | with_reducible rfl | (simp only [mDn, sld_eq, h11_1, ↓reduceIte]; done)) dX7_distinctIn_22

set_option maxHeartbeats 4000000 in
set_option maxRecDepth 100000 in
theorem k_X7_hashed (l : Launch) (G : GT) (ad : Nat → Nat) (o : Nat) (r : MoT) (pl : Int32) : Rd l yX7_hashed wsX7_hashed { frames := 1, cells := 0, slots := 0, locals := 20 } G (wMo G ad o r) [.ref (ad o), .int pl] (.int (mHs r.2.2.2.2.2.2.2.2.2.1 r.2.2.2.2.1 pl)) := by
  refine Met.ofW (cc := cX7_hashed) (maxL := 6) (ret := (some .int)) (by decide) rfl ?_
  intro p e s m args below meth c s₁ B hml hv
  obtain ⟨rfl, hP, hY⟩ := hv
  have hx := B.exec
  have hb := B.bytes
  have hr := B.returns
  have hts := atoms_spec (ws := wsX7_hashed) B.pre
  have hown : s.vm.findClass RX7 = some m.cls := findClass_of_methodNamed B.named
  have hlk := B.notSynchronized
  have CF : CallFix p m c cX7_hashed 6 s _ wsX7_hashed RX7 := ⟨hx, hb, hml, hown, hts⟩
  have hiX7 : ∀ w ∈ wsX70, w ∈ wsX7_hashed := fun w h => (List.mem_cons_of_mem _ (List.mem_append_right _ h))
  have kf35 := hts (.fieldLink RX7 35 "ReservoirReedModel" "isNew" "[Z") (List.mem_cons_of_mem _ (List.mem_append_left _ (List.mem_of_getElem? (i := 0) rfl)))
  have kf20 := hts (.fieldLink RX7 20 "ReservoirReedModel" "items" "[I") (List.mem_cons_of_mem _ (List.mem_append_left _ (List.mem_of_getElem? (i := 1) rfl)))
  have hl := lv_entry ([.ref (ad o), .int pl]) (n := 6) (Nat.le_of_ble_eq_true rfl)
  rw [lg_entry_eq]
  generalize (lg_sl ([.ref (ad o), .int pl]) ++ List.replicate (6 - (lg_sl ([.ref (ad o), .int pl])).length) Slot.unset).toArray = ls at hl ⊢
  have hl : lv_has ls 6 [(0, .ref (ad o)), (1, .int pl)] := hl
  refine lv_iconst (v := -1) hx hb dX7_hashed_0 (by decide) ?_
  refine lv_istore_n (lv' := [(2, .int (-1)), (0, .ref (ad o)), (1, .int pl)]) hx hb dX7_hashed_1 rfl hl (by decide) rfl (fun ls hl => ?_)
  refine lv_iconst (v := 0) hx hb dX7_hashed_2 (by decide) ?_
  refine lv_istore_n (lv' := [(3, .int 0), (2, .int (-1)), (0, .ref (ad o)), (1, .int pl)]) hx hb dX7_hashed_3 rfl hl (by decide) rfl (fun ls hl => ?_)
  have loop1 : ∀ (fu : Nat) (a : Nat) (f : Int32), 600 - a < fu → mHsL r.2.2.2.2.2.2.2.2.2.1 r.2.2.2.2.1 pl fu a f = mHsL r.2.2.2.2.2.2.2.2.2.1 r.2.2.2.2.1 pl (600 - 0 + 1) 0 (-1) → a ≤ 600 → ∀ (ls : Array Slot), lv_has ls 6 [(2, .int f), (3, .int (nI a)), (0, .ref (ad o)), (1, .int pl)] → W p l e (headSpec wsX7_hashed { frames := 1, cells := 0, slots := 0, locals := 20 }).room s m ([.ref (ad o), .int pl] : List Value).toArray below meth c s.heap [] 0 0 (MQ below (RQ (.int (mHs r.2.2.2.2.2.2.2.2.2.1 r.2.2.2.2.1 pl))) ([.ref (ad o), .int pl] : List Value).toArray s 0 0 (fun _ => False)) (F0 m 4 ls []) := by
    intro fu
    induction fu with
    | zero => intro a f hm; exact absurd hm (Nat.not_lt_zero _)
    | succ fu ih =>
      intro a f hm hR1 hqa ls hl
      refine lv_iload_n hx hb dX7_hashed_4 rfl (lv_at hl 1 rfl) ?_
      refine lv_sipush (v := 600) hx hb dX7_hashed_5 (by decide) ?_
      refine lv_icmp_ge (tgt := 101) hx hb dX7_hashed_8 (by decide) (fun h8_1 => ?_) (fun h8_1 => ?_)
      · refine lv_iload_n hx hb dX7_hashed_101 rfl (lv_at hl 0 rfl) ?_
        exact rd_iret hx hb hr hlk (by first | with_reducible rfl | (simp only [mHs, sld_eq, ↓reduceIte]; rw [← hR1]; simp only [mHsL, h8_1, ↓reduceIte]) | (rw [← hR1]; simp only [mHsL, h8_1, ↓reduceIte])) dX7_hashed_102
      · refine lv_aload_n hx hb dX7_hashed_11 rfl (lv_at hl 2 rfl) ?_
        refine va_get (D := G.1) (ci := 7) (v := .ref (ad (o+7))) (C := RX7) (T := TX7) (N := 13) hx hb hts hiX7 hown hY.1 hP 0 rfl rfl 9 (by decide) kf35 (fun _ h9 => h9) rfl dX7_hashed_12 ?_
        refine lv_iload_n hx hb dX7_hashed_15 rfl (lv_at hl 1 rfl) ?_
        refine va_zald hx hb hY.1 hP 7 1 rfl rfl (vp_nI (lt600 hqa h8_1) (by decide)) dX7_hashed_16 ?_
        refine lv_if_eq (tgt := 95) hx hb dX7_hashed_17 (by decide) (fun h17_2 => ?_) (fun h17_2 => ?_)
        · refine lv_iinc (v := (nI a) + 1) (lv' := [(3, .int ((nI a) + 1)), (2, .int f), (0, .ref (ad o)), (1, .int pl)]) hx hb dX7_hashed_95 hl (k := 1) rfl rfl (by decide) rfl (fun ls hl => ?_)
          rw [show (nI a) + 1 = nI (a+1) from (nI_succ a).symm] at hl
          refine lv_goto (tgt := 4) hx hb dX7_hashed_98 (by decide) ?_
          exact ih (a+1) f (by have := (lt600 hqa h8_1); omega) (by rw [← hR1]; simp only [mHsL, h8_1, eq_true h17_2, ↓reduceIte]) (lt600 hqa h8_1) ls (lv_sub hl [1, 0, 2, 3] rfl)
        · refine lv_iconst (v := 0) hx hb dX7_hashed_20 (by decide) ?_
          refine lv_istore (lv' := [(4, .int 0), (2, .int f), (3, .int (nI a)), (0, .ref (ad o)), (1, .int pl)]) hx hb dX7_hashed_21 hl (by decide) rfl (fun ls hl => ?_)
          refine lv_iconst (v := 0) hx hb dX7_hashed_23 (by decide) ?_
          refine lv_istore (lv' := [(5, .int 0), (4, .int 0), (2, .int f), (3, .int (nI a)), (0, .ref (ad o)), (1, .int pl)]) hx hb dX7_hashed_24 hl (by decide) rfl (fun ls hl => ?_)
          have loop2 : ∀ (fu2 : Nat) (b : Nat) (x : Int32), 600 - b < fu2 → mHsN r.2.2.2.2.2.2.2.2.2.1 r.2.2.2.2.1 a fu2 b x = mHsN r.2.2.2.2.2.2.2.2.2.1 r.2.2.2.2.1 a (600 - 0 + 1) 0 0 → b ≤ 600 → ∀ (ls : Array Slot), lv_has ls 6 [(4, .int x), (5, .int (nI b)), (2, .int f), (3, .int (nI a)), (0, .ref (ad o)), (1, .int pl)] → W p l e (headSpec wsX7_hashed { frames := 1, cells := 0, slots := 0, locals := 20 }).room s m ([.ref (ad o), .int pl] : List Value).toArray below meth c s.heap [] 0 0 (MQ below (RQ (.int (mHs r.2.2.2.2.2.2.2.2.2.1 r.2.2.2.2.1 pl))) ([.ref (ad o), .int pl] : List Value).toArray s 0 0 (fun _ => False)) (F0 m 26 ls []) := by
            intro fu2
            induction fu2 with
            | zero => intro b x hm; exact absurd hm (Nat.not_lt_zero _)
            | succ fu2 ih2 =>
              intro b x hm2 hR2 hqb ls hl
              refine lv_iload hx hb dX7_hashed_26 (lv_at hl 1 rfl) ?_
              refine lv_sipush (v := 600) hx hb dX7_hashed_28 (by decide) ?_
              refine lv_icmp_ge (tgt := 83) hx hb dX7_hashed_31 (by decide) (fun h31_3 => ?_) (fun h31_3 => ?_)
              · obtain rfl : x = mHsN r.2.2.2.2.2.2.2.2.2.1 r.2.2.2.2.1 a (600 - 0 + 1) 0 0 := by rw [← hR2]; simp only [mHsN, h31_3, ↓reduceIte]
                refine lv_iload hx hb dX7_hashed_83 (lv_at hl 0 rfl) ?_
                refine lv_iload_n hx hb dX7_hashed_85 rfl (lv_at hl 5 rfl) ?_
                refine lv_icmp_ne (tgt := 93) hx hb dX7_hashed_86 (by decide) (fun h86_4 => ?_) (fun h86_4 => ?_)
                · refine lv_iload_n hx hb dX7_hashed_93 rfl (lv_at hl 2 rfl) ?_
                  refine lv_istore_n (lv' := [(2, .int f), (4, .int (mHsN r.2.2.2.2.2.2.2.2.2.1 r.2.2.2.2.1 a (600 - 0 + 1) 0 0)), (5, .int (nI b)), (3, .int (nI a)), (0, .ref (ad o)), (1, .int pl)]) hx hb dX7_hashed_94 rfl hl (by decide) rfl (fun ls hl => ?_)
                  refine lv_iinc (v := (nI a) + 1) (lv' := [(3, .int ((nI a) + 1)), (2, .int f), (4, .int (mHsN r.2.2.2.2.2.2.2.2.2.1 r.2.2.2.2.1 a (600 - 0 + 1) 0 0)), (5, .int (nI b)), (0, .ref (ad o)), (1, .int pl)]) hx hb dX7_hashed_95 hl (k := 3) rfl rfl (by decide) rfl (fun ls hl => ?_)
                  rw [show (nI a) + 1 = nI (a+1) from (nI_succ a).symm] at hl
                  refine lv_goto (tgt := 4) hx hb dX7_hashed_98 (by decide) ?_
                  exact ih (a+1) f (by have := (lt600 hqa h8_1); omega) (by rw [← hR1]; simp only [mHsL, h8_1, h17_2, h86_4, ↓reduceIte]) (lt600 hqa h8_1) ls (lv_sub hl [1, 0, 4, 5] rfl)
                · refine lv_iload_n hx hb dX7_hashed_89 rfl (lv_at hl 3 rfl) ?_
                  refine lv_goto (tgt := 94) hx hb dX7_hashed_90 (by decide) ?_
                  refine lv_istore_n (lv' := [(2, .int (nI a)), (4, .int (mHsN r.2.2.2.2.2.2.2.2.2.1 r.2.2.2.2.1 a (600 - 0 + 1) 0 0)), (5, .int (nI b)), (3, .int (nI a)), (0, .ref (ad o)), (1, .int pl)]) hx hb dX7_hashed_94 rfl hl (by decide) rfl (fun ls hl => ?_)
                  refine lv_iinc (v := (nI a) + 1) (lv' := [(3, .int ((nI a) + 1)), (2, .int (nI a)), (4, .int (mHsN r.2.2.2.2.2.2.2.2.2.1 r.2.2.2.2.1 a (600 - 0 + 1) 0 0)), (5, .int (nI b)), (0, .ref (ad o)), (1, .int pl)]) hx hb dX7_hashed_95 hl (k := 3) rfl rfl (by decide) rfl (fun ls hl => ?_)
                  rw [show (nI a) + 1 = nI (a+1) from (nI_succ a).symm] at hl
                  refine lv_goto (tgt := 4) hx hb dX7_hashed_98 (by decide) ?_
                  exact ih (a+1) (nI a) (by have := (lt600 hqa h8_1); omega) (by rw [← hR1]; simp only [mHsL, h8_1, h17_2, eq_true h86_4, ↓reduceIte]) (lt600 hqa h8_1) ls (lv_sub hl [1, 0, 4, 5] rfl)
              · refine lv_iload hx hb dX7_hashed_34 (lv_at hl 0 rfl) ?_
                refine lv_aload_n hx hb dX7_hashed_36 rfl (lv_at hl 4 rfl) ?_
                refine va_get (D := G.1) (ci := 7) (v := .ref (ad (o+7))) (C := RX7) (T := TX7) (N := 13) hx hb hts hiX7 hown hY.1 hP 0 rfl rfl 9 (by decide) kf35 (fun _ h9 => h9) rfl dX7_hashed_37 ?_
                refine lv_iload hx hb dX7_hashed_40 (lv_at hl 1 rfl) ?_
                refine va_zald hx hb hY.1 hP 7 1 rfl rfl (vp_nI (lt600 hqb h31_3) (by decide)) dX7_hashed_42 ?_
                refine lv_if_eq (tgt := 73) hx hb dX7_hashed_43 (by decide) (fun h43_5 => ?_) (fun h43_5 => ?_)
                · refine lv_iconst (v := 0) hx hb dX7_hashed_73 (by decide) ?_
                  refine lv_iadd hx hb dX7_hashed_74 ?_
                  refine lv_istore (lv' := [(4, .int (x + 0)), (5, .int (nI b)), (2, .int f), (3, .int (nI a)), (0, .ref (ad o)), (1, .int pl)]) hx hb dX7_hashed_75 hl (by decide) rfl (fun ls hl => ?_)
                  refine lv_iinc (v := (nI b) + 1) (lv' := [(5, .int ((nI b) + 1)), (4, .int (x + 0)), (2, .int f), (3, .int (nI a)), (0, .ref (ad o)), (1, .int pl)]) hx hb dX7_hashed_77 hl (k := 1) rfl rfl (by decide) rfl (fun ls hl => ?_)
                  rw [show (nI b) + 1 = nI (b+1) from (nI_succ b).symm] at hl
                  refine lv_goto (tgt := 26) hx hb dX7_hashed_80 (by decide) ?_
                  exact ih2 (b+1) (x + 0) (by have := (lt600 hqb h31_3); omega) (by rw [← hR2]; simp only [mHsN, h31_3, eq_true h43_5, ↓reduceIte]) (lt600 hqb h31_3) ls (lv_sub hl [1, 0, 2, 3, 4, 5] rfl)
                · refine lv_aload_n hx hb dX7_hashed_46 rfl (lv_at hl 4 rfl) ?_
                  refine va_get (D := G.1) (ci := 7) (v := .ref (ad (o+2))) (C := RX7) (T := TX7) (N := 13) hx hb hts hiX7 hown hY.1 hP 0 rfl rfl 4 (by decide) kf20 (fun _ h9 => h9) rfl dX7_hashed_47 ?_
                  refine lv_iload hx hb dX7_hashed_50 (lv_at hl 1 rfl) ?_
                  refine va_iald hx hb hY.1 hP 2 0 rfl rfl (vp_nI (lt600 hqb h31_3) (by decide)) dX7_hashed_52 ?_
                  refine rdS (w0 := ([] : va_W)) (As := [.int (r.2.2.2.2.1 (nI b).toNatClampNeg)]) (rest := [.int x]) CF (k_X7_hash l G (r.2.2.2.2.1 (nI b).toNatClampNeg)) (va_cwS 1 hts gX7_hashed_X7_hash rfl rfl rfl (by decide +kernel) ⟨Nat.le_of_ble_eq_true rfl, Nat.le_of_ble_eq_true rfl⟩) va_P_nil hY rfl hl.1 rfl (lv_room (Nat.le_of_ble_eq_true rfl)) dX7_hashed_53 ⟨Nat.zero_le _, Nat.zero_le _⟩ ?_
                  refine lv_aload_n hx hb dX7_hashed_56 rfl (lv_at hl 4 rfl) ?_
                  refine va_get (D := G.1) (ci := 7) (v := .ref (ad (o+2))) (C := RX7) (T := TX7) (N := 13) hx hb hts hiX7 hown hY.1 hP 0 rfl rfl 4 (by decide) kf20 (fun _ h9 => h9) rfl dX7_hashed_57 ?_
                  refine lv_iload_n hx hb dX7_hashed_60 rfl (lv_at hl 3 rfl) ?_
                  refine va_iald hx hb hY.1 hP 2 0 rfl rfl (vp_nI (lt600 hqa h8_1) (by decide)) dX7_hashed_61 ?_
                  refine rdS (w0 := ([] : va_W)) (As := [.int (r.2.2.2.2.1 (nI a).toNatClampNeg)]) (rest := [.long (hash_ (r.2.2.2.2.1 (nI b).toNatClampNeg)), .int x]) CF (k_X7_hash l G (r.2.2.2.2.1 (nI a).toNatClampNeg)) (va_cwS 1 hts gX7_hashed_X7_hash rfl rfl rfl (by decide +kernel) ⟨Nat.le_of_ble_eq_true rfl, Nat.le_of_ble_eq_true rfl⟩) va_P_nil hY rfl hl.1 rfl (lv_room (Nat.le_of_ble_eq_true rfl)) dX7_hashed_62 ⟨Nat.zero_le _, Nat.zero_le _⟩ ?_
                  refine W.lcmp hx hb dX7_hashed_65 ?_
                  refine lv_if_ge (tgt := 73) hx hb dX7_hashed_66 (by decide) (fun h66_6 => ?_) (fun h66_6 => ?_)
                  · refine lv_iconst (v := 0) hx hb dX7_hashed_73 (by decide) ?_
                    refine lv_iadd hx hb dX7_hashed_74 ?_
                    refine lv_istore (lv' := [(4, .int (x + 0)), (5, .int (nI b)), (2, .int f), (3, .int (nI a)), (0, .ref (ad o)), (1, .int pl)]) hx hb dX7_hashed_75 hl (by decide) rfl (fun ls hl => ?_)
                    refine lv_iinc (v := (nI b) + 1) (lv' := [(5, .int ((nI b) + 1)), (4, .int (x + 0)), (2, .int f), (3, .int (nI a)), (0, .ref (ad o)), (1, .int pl)]) hx hb dX7_hashed_77 hl (k := 1) rfl rfl (by decide) rfl (fun ls hl => ?_)
                    rw [show (nI b) + 1 = nI (b+1) from (nI_succ b).symm] at hl
                    refine lv_goto (tgt := 26) hx hb dX7_hashed_80 (by decide) ?_
                    exact ih2 (b+1) (x + 0) (by have := (lt600 hqb h31_3); omega) (by rw [← hR2]; simp only [mHsN, h31_3, h43_5, h66_6, ↓reduceIte]) (lt600 hqb h31_3) ls (lv_sub hl [1, 0, 2, 3, 4, 5] rfl)
                  · refine lv_iconst (v := 1) hx hb dX7_hashed_69 (by decide) ?_
                    refine lv_goto (tgt := 74) hx hb dX7_hashed_70 (by decide) ?_
                    refine lv_iadd hx hb dX7_hashed_74 ?_
                    refine lv_istore (lv' := [(4, .int (x + 1)), (5, .int (nI b)), (2, .int f), (3, .int (nI a)), (0, .ref (ad o)), (1, .int pl)]) hx hb dX7_hashed_75 hl (by decide) rfl (fun ls hl => ?_)
                    refine lv_iinc (v := (nI b) + 1) (lv' := [(5, .int ((nI b) + 1)), (4, .int (x + 1)), (2, .int f), (3, .int (nI a)), (0, .ref (ad o)), (1, .int pl)]) hx hb dX7_hashed_77 hl (k := 1) rfl rfl (by decide) rfl (fun ls hl => ?_)
                    rw [show (nI b) + 1 = nI (b+1) from (nI_succ b).symm] at hl
                    refine lv_goto (tgt := 26) hx hb dX7_hashed_80 (by decide) ?_
                    exact ih2 (b+1) (x + 1) (by have := (lt600 hqb h31_3); omega) (by rw [← hR2]; simp only [mHsN, h31_3, h43_5, h66_6, ↓reduceIte]) (lt600 hqb h31_3) ls (lv_sub hl [1, 0, 2, 3, 4, 5] rfl)
          exact loop2 _ 0 0 (Nat.lt_succ_self _) rfl (Nat.zero_le _) ls (lv_sub hl [1, 0, 2, 3, 4, 5] rfl)
  exact loop1 _ 0 (-1) (Nat.lt_succ_self _) rfl (Nat.zero_le _) ls (lv_sub hl [1, 0, 2, 3] rfl)

set_option maxHeartbeats 4000000 in
set_option maxRecDepth 100000 in
theorem k_X7_distinctSize (l : Launch) (G : GT) (ad : Nat → Nat) (o : Nat) (r : MoT) (st : Int32) (h0 : okA st 0 2) : Wr l yX7_distinctSize wsX7_distinctSize { frames := 3, cells := 0, slots := 0, locals := 69 } G (wMo G ad o r) (wMo G ad o (0, r.2.1, r.2.2.1, r.2.2.2.1, r.2.2.2.2.1, r.2.2.2.2.2.1, r.2.2.2.2.2.2.1, r.2.2.2.2.2.2.2.1, r.2.2.2.2.2.2.2.2.1, (mDs r.2.2.2.1 r.2.2.2.2.1 st r.2.2.2.2.2.2.2.2.2.1).2, r.2.2.2.2.2.2.2.2.2.2.1, r.2.2.2.2.2.2.2.2.2.2.2.1, r.2.2.2.2.2.2.2.2.2.2.2.2)) [.ref (ad o), .int st] (some (.int (mDn r.2.2.2.1 r.2.2.2.2.1 r.2.1 st r.2.2.2.2.2.2.2.2.2.1))) := by
  intro sz
  refine Met.ofW (cc := cX7_distinctSize) (maxL := 2) (ret := (some .int)) (by decide) rfl ?_
  intro p e s m args below meth c s₁ B hml hv
  obtain ⟨rfl, hsz, hP, hY, hD0⟩ := hv
  subst hsz
  have hD := hD0.self (sz := s.heap.size)
  generalize hAe : va_A (wMo G ad o r) s.heap.size = A at hD ⊢
  have hA : ∀ q : Nat, s.heap.size ≤ q → A q := fun q h => by rw [← hAe]; exact Or.inr h
  have hS : va_S A s.heap s.heap [] := va_S.rf
  have hx := B.exec
  have hb := B.bytes
  have hr := B.returns
  have hts := atoms_spec (ws := wsX7_distinctSize) B.pre
  have hown : s.vm.findClass RX7 = some m.cls := findClass_of_methodNamed B.named
  have hlk := B.notSynchronized
  have CF : CallFix p m c cX7_distinctSize 2 s _ wsX7_distinctSize RX7 := ⟨hx, hb, hml, hown, hts⟩
  have hl := lv_entry ([.ref (ad o), .int st]) (n := 2) (Nat.le_of_ble_eq_true rfl)
  rw [lg_entry_eq]
  generalize (lg_sl ([.ref (ad o), .int st]) ++ List.replicate (2 - (lg_sl ([.ref (ad o), .int st])).length) Slot.unset).toArray = ls at hl ⊢
  have hl : lv_has ls 2 [(0, .ref (ad o)), (1, .int st)] := hl
  refine lv_aload_n hx hb dX7_distinctSize_0 rfl (lv_at hl 0 rfl) ?_
  refine lv_iload_n hx hb dX7_distinctSize_1 rfl (lv_at hl 1 rfl) ?_
  refine lv_iconst (v := 2) hx hb dX7_distinctSize_2 (by decide) ?_
  refine wrV [] (wMo G ad o r) [] (wMo G ad o (0, r.2)) (As := [.int st, .int 2]) (rest := []) CF (k_X7_noStream l G ad o r st 2 h0) (cwV 2 hts gX7_distinctSize_X7_noStream rfl rfl rfl (by decide +kernel) ⟨Nat.le_of_ble_eq_true rfl, Nat.le_of_ble_eq_true rfl⟩) hP hD hS hA hY rfl rfl (fst_Mo _ _ _ _ _) rfl hl.1 rfl (lv_room (Nat.le_of_ble_eq_true rfl)) dX7_distinctSize_3 ⟨Nat.zero_le _, Nat.zero_le _⟩ (fun H locs hP hD hS => ?_)
  have hP : va_P G.1 vwCl (wMo G ad o (0, r.2.1, r.2.2.1, r.2.2.2.1, r.2.2.2.2.1, r.2.2.2.2.2.1, r.2.2.2.2.2.2.1, r.2.2.2.2.2.2.2.1, r.2.2.2.2.2.2.2.2.1, r.2.2.2.2.2.2.2.2.2.1, r.2.2.2.2.2.2.2.2.2.2.1, r.2.2.2.2.2.2.2.2.2.2.2.1, r.2.2.2.2.2.2.2.2.2.2.2.2)) H := hP
  have hD : va_D A (wMo G ad o (0, r.2.1, r.2.2.1, r.2.2.2.1, r.2.2.2.2.1, r.2.2.2.2.2.1, r.2.2.2.2.2.2.1, r.2.2.2.2.2.2.2.1, r.2.2.2.2.2.2.2.2.1, r.2.2.2.2.2.2.2.2.2.1, r.2.2.2.2.2.2.2.2.2.2.1, r.2.2.2.2.2.2.2.2.2.2.2.1, r.2.2.2.2.2.2.2.2.2.2.2.2)) := hD
  refine lv_if_eq (tgt := 13) hx hb dX7_distinctSize_6 (by decide) (fun h6_1 => ?_) (fun h6_1 => ?_)
  · refine lv_aload_n hx hb dX7_distinctSize_13 rfl (lv_at hl 0 rfl) ?_
    refine lv_iload_n hx hb dX7_distinctSize_14 rfl (lv_at hl 1 rfl) ?_
    refine wrV [] (wMo G ad o (0, r.2.1, r.2.2.1, r.2.2.2.1, r.2.2.2.2.1, r.2.2.2.2.2.1, r.2.2.2.2.2.2.1, r.2.2.2.2.2.2.2.1, r.2.2.2.2.2.2.2.2.1, r.2.2.2.2.2.2.2.2.2.1, r.2.2.2.2.2.2.2.2.2.2.1, r.2.2.2.2.2.2.2.2.2.2.2.1, r.2.2.2.2.2.2.2.2.2.2.2.2)) [] (wMo G ad o ((0, r.2.1, r.2.2.1, r.2.2.2.1, r.2.2.2.2.1, r.2.2.2.2.2.1, r.2.2.2.2.2.2.1, r.2.2.2.2.2.2.2.1, r.2.2.2.2.2.2.2.2.1, r.2.2.2.2.2.2.2.2.2.1, r.2.2.2.2.2.2.2.2.2.2.1, r.2.2.2.2.2.2.2.2.2.2.2.1, r.2.2.2.2.2.2.2.2.2.2.2.2).1, (0, r.2.1, r.2.2.1, r.2.2.2.1, r.2.2.2.2.1, r.2.2.2.2.2.1, r.2.2.2.2.2.2.1, r.2.2.2.2.2.2.2.1, r.2.2.2.2.2.2.2.2.1, r.2.2.2.2.2.2.2.2.2.1, r.2.2.2.2.2.2.2.2.2.2.1, r.2.2.2.2.2.2.2.2.2.2.2.1, r.2.2.2.2.2.2.2.2.2.2.2.2).2.1, (0, r.2.1, r.2.2.1, r.2.2.2.1, r.2.2.2.2.1, r.2.2.2.2.2.1, r.2.2.2.2.2.2.1, r.2.2.2.2.2.2.2.1, r.2.2.2.2.2.2.2.2.1, r.2.2.2.2.2.2.2.2.2.1, r.2.2.2.2.2.2.2.2.2.2.1, r.2.2.2.2.2.2.2.2.2.2.2.1, r.2.2.2.2.2.2.2.2.2.2.2.2).2.2.1, (0, r.2.1, r.2.2.1, r.2.2.2.1, r.2.2.2.2.1, r.2.2.2.2.2.1, r.2.2.2.2.2.2.1, r.2.2.2.2.2.2.2.1, r.2.2.2.2.2.2.2.2.1, r.2.2.2.2.2.2.2.2.2.1, r.2.2.2.2.2.2.2.2.2.2.1, r.2.2.2.2.2.2.2.2.2.2.2.1, r.2.2.2.2.2.2.2.2.2.2.2.2).2.2.2.1, (0, r.2.1, r.2.2.1, r.2.2.2.1, r.2.2.2.2.1, r.2.2.2.2.2.1, r.2.2.2.2.2.2.1, r.2.2.2.2.2.2.2.1, r.2.2.2.2.2.2.2.2.1, r.2.2.2.2.2.2.2.2.2.1, r.2.2.2.2.2.2.2.2.2.2.1, r.2.2.2.2.2.2.2.2.2.2.2.1, r.2.2.2.2.2.2.2.2.2.2.2.2).2.2.2.2.1, (0, r.2.1, r.2.2.1, r.2.2.2.1, r.2.2.2.2.1, r.2.2.2.2.2.1, r.2.2.2.2.2.2.1, r.2.2.2.2.2.2.2.1, r.2.2.2.2.2.2.2.2.1, r.2.2.2.2.2.2.2.2.2.1, r.2.2.2.2.2.2.2.2.2.2.1, r.2.2.2.2.2.2.2.2.2.2.2.1, r.2.2.2.2.2.2.2.2.2.2.2.2).2.2.2.2.2.1, (0, r.2.1, r.2.2.1, r.2.2.2.1, r.2.2.2.2.1, r.2.2.2.2.2.1, r.2.2.2.2.2.2.1, r.2.2.2.2.2.2.2.1, r.2.2.2.2.2.2.2.2.1, r.2.2.2.2.2.2.2.2.2.1, r.2.2.2.2.2.2.2.2.2.2.1, r.2.2.2.2.2.2.2.2.2.2.2.1, r.2.2.2.2.2.2.2.2.2.2.2.2).2.2.2.2.2.2.1, (0, r.2.1, r.2.2.1, r.2.2.2.1, r.2.2.2.2.1, r.2.2.2.2.2.1, r.2.2.2.2.2.2.1, r.2.2.2.2.2.2.2.1, r.2.2.2.2.2.2.2.2.1, r.2.2.2.2.2.2.2.2.2.1, r.2.2.2.2.2.2.2.2.2.2.1, r.2.2.2.2.2.2.2.2.2.2.2.1, r.2.2.2.2.2.2.2.2.2.2.2.2).2.2.2.2.2.2.2.1, (0, r.2.1, r.2.2.1, r.2.2.2.1, r.2.2.2.2.1, r.2.2.2.2.2.1, r.2.2.2.2.2.2.1, r.2.2.2.2.2.2.2.1, r.2.2.2.2.2.2.2.2.1, r.2.2.2.2.2.2.2.2.2.1, r.2.2.2.2.2.2.2.2.2.2.1, r.2.2.2.2.2.2.2.2.2.2.2.1, r.2.2.2.2.2.2.2.2.2.2.2.2).2.2.2.2.2.2.2.2.1, (mDs (0, r.2.1, r.2.2.1, r.2.2.2.1, r.2.2.2.2.1, r.2.2.2.2.2.1, r.2.2.2.2.2.2.1, r.2.2.2.2.2.2.2.1, r.2.2.2.2.2.2.2.2.1, r.2.2.2.2.2.2.2.2.2.1, r.2.2.2.2.2.2.2.2.2.2.1, r.2.2.2.2.2.2.2.2.2.2.2.1, r.2.2.2.2.2.2.2.2.2.2.2.2).2.2.2.1 (0, r.2.1, r.2.2.1, r.2.2.2.1, r.2.2.2.2.1, r.2.2.2.2.2.1, r.2.2.2.2.2.2.1, r.2.2.2.2.2.2.2.1, r.2.2.2.2.2.2.2.2.1, r.2.2.2.2.2.2.2.2.2.1, r.2.2.2.2.2.2.2.2.2.2.1, r.2.2.2.2.2.2.2.2.2.2.2.1, r.2.2.2.2.2.2.2.2.2.2.2.2).2.2.2.2.1 st (0, r.2.1, r.2.2.1, r.2.2.2.1, r.2.2.2.2.1, r.2.2.2.2.2.1, r.2.2.2.2.2.2.1, r.2.2.2.2.2.2.2.1, r.2.2.2.2.2.2.2.2.1, r.2.2.2.2.2.2.2.2.2.1, r.2.2.2.2.2.2.2.2.2.2.1, r.2.2.2.2.2.2.2.2.2.2.2.1, r.2.2.2.2.2.2.2.2.2.2.2.2).2.2.2.2.2.2.2.2.2.1).2, (0, r.2.1, r.2.2.1, r.2.2.2.1, r.2.2.2.2.1, r.2.2.2.2.2.1, r.2.2.2.2.2.2.1, r.2.2.2.2.2.2.2.1, r.2.2.2.2.2.2.2.2.1, r.2.2.2.2.2.2.2.2.2.1, r.2.2.2.2.2.2.2.2.2.2.1, r.2.2.2.2.2.2.2.2.2.2.2.1, r.2.2.2.2.2.2.2.2.2.2.2.2).2.2.2.2.2.2.2.2.2.2.1, (0, r.2.1, r.2.2.1, r.2.2.2.1, r.2.2.2.2.1, r.2.2.2.2.2.1, r.2.2.2.2.2.2.1, r.2.2.2.2.2.2.2.1, r.2.2.2.2.2.2.2.2.1, r.2.2.2.2.2.2.2.2.2.1, r.2.2.2.2.2.2.2.2.2.2.1, r.2.2.2.2.2.2.2.2.2.2.2.1, r.2.2.2.2.2.2.2.2.2.2.2.2).2.2.2.2.2.2.2.2.2.2.2.1, (0, r.2.1, r.2.2.1, r.2.2.2.1, r.2.2.2.2.1, r.2.2.2.2.2.1, r.2.2.2.2.2.2.1, r.2.2.2.2.2.2.2.1, r.2.2.2.2.2.2.2.2.1, r.2.2.2.2.2.2.2.2.2.1, r.2.2.2.2.2.2.2.2.2.2.1, r.2.2.2.2.2.2.2.2.2.2.2.1, r.2.2.2.2.2.2.2.2.2.2.2.2).2.2.2.2.2.2.2.2.2.2.2.2)) (As := [.int st]) (rest := []) CF (k_X7_distinctIn l G ad o (0, r.2.1, r.2.2.1, r.2.2.2.1, r.2.2.2.2.1, r.2.2.2.2.2.1, r.2.2.2.2.2.2.1, r.2.2.2.2.2.2.2.1, r.2.2.2.2.2.2.2.2.1, r.2.2.2.2.2.2.2.2.2.1, r.2.2.2.2.2.2.2.2.2.2.1, r.2.2.2.2.2.2.2.2.2.2.2.1, r.2.2.2.2.2.2.2.2.2.2.2.2) st) (cwV 1 hts gX7_distinctSize_X7_distinctIn rfl rfl rfl (by decide +kernel) ⟨Nat.le_of_ble_eq_true rfl, Nat.le_of_ble_eq_true rfl⟩) hP hD hS hA hY rfl rfl (fst_Mo _ _ _ _ _) rfl hl.1 rfl (lv_room (Nat.le_of_ble_eq_true rfl)) dX7_distinctSize_15 ⟨Nat.zero_le _, Nat.zero_le _⟩ (fun H locs hP hD hS => ?_)
    have hP : va_P G.1 vwCl (wMo G ad o ((0, r.2.1, r.2.2.1, r.2.2.2.1, r.2.2.2.2.1, r.2.2.2.2.2.1, r.2.2.2.2.2.2.1, r.2.2.2.2.2.2.2.1, r.2.2.2.2.2.2.2.2.1, r.2.2.2.2.2.2.2.2.2.1, r.2.2.2.2.2.2.2.2.2.2.1, r.2.2.2.2.2.2.2.2.2.2.2.1, r.2.2.2.2.2.2.2.2.2.2.2.2).1, (0, r.2.1, r.2.2.1, r.2.2.2.1, r.2.2.2.2.1, r.2.2.2.2.2.1, r.2.2.2.2.2.2.1, r.2.2.2.2.2.2.2.1, r.2.2.2.2.2.2.2.2.1, r.2.2.2.2.2.2.2.2.2.1, r.2.2.2.2.2.2.2.2.2.2.1, r.2.2.2.2.2.2.2.2.2.2.2.1, r.2.2.2.2.2.2.2.2.2.2.2.2).2.1, (0, r.2.1, r.2.2.1, r.2.2.2.1, r.2.2.2.2.1, r.2.2.2.2.2.1, r.2.2.2.2.2.2.1, r.2.2.2.2.2.2.2.1, r.2.2.2.2.2.2.2.2.1, r.2.2.2.2.2.2.2.2.2.1, r.2.2.2.2.2.2.2.2.2.2.1, r.2.2.2.2.2.2.2.2.2.2.2.1, r.2.2.2.2.2.2.2.2.2.2.2.2).2.2.1, (0, r.2.1, r.2.2.1, r.2.2.2.1, r.2.2.2.2.1, r.2.2.2.2.2.1, r.2.2.2.2.2.2.1, r.2.2.2.2.2.2.2.1, r.2.2.2.2.2.2.2.2.1, r.2.2.2.2.2.2.2.2.2.1, r.2.2.2.2.2.2.2.2.2.2.1, r.2.2.2.2.2.2.2.2.2.2.2.1, r.2.2.2.2.2.2.2.2.2.2.2.2).2.2.2.1, (0, r.2.1, r.2.2.1, r.2.2.2.1, r.2.2.2.2.1, r.2.2.2.2.2.1, r.2.2.2.2.2.2.1, r.2.2.2.2.2.2.2.1, r.2.2.2.2.2.2.2.2.1, r.2.2.2.2.2.2.2.2.2.1, r.2.2.2.2.2.2.2.2.2.2.1, r.2.2.2.2.2.2.2.2.2.2.2.1, r.2.2.2.2.2.2.2.2.2.2.2.2).2.2.2.2.1, (0, r.2.1, r.2.2.1, r.2.2.2.1, r.2.2.2.2.1, r.2.2.2.2.2.1, r.2.2.2.2.2.2.1, r.2.2.2.2.2.2.2.1, r.2.2.2.2.2.2.2.2.1, r.2.2.2.2.2.2.2.2.2.1, r.2.2.2.2.2.2.2.2.2.2.1, r.2.2.2.2.2.2.2.2.2.2.2.1, r.2.2.2.2.2.2.2.2.2.2.2.2).2.2.2.2.2.1, (0, r.2.1, r.2.2.1, r.2.2.2.1, r.2.2.2.2.1, r.2.2.2.2.2.1, r.2.2.2.2.2.2.1, r.2.2.2.2.2.2.2.1, r.2.2.2.2.2.2.2.2.1, r.2.2.2.2.2.2.2.2.2.1, r.2.2.2.2.2.2.2.2.2.2.1, r.2.2.2.2.2.2.2.2.2.2.2.1, r.2.2.2.2.2.2.2.2.2.2.2.2).2.2.2.2.2.2.1, (0, r.2.1, r.2.2.1, r.2.2.2.1, r.2.2.2.2.1, r.2.2.2.2.2.1, r.2.2.2.2.2.2.1, r.2.2.2.2.2.2.2.1, r.2.2.2.2.2.2.2.2.1, r.2.2.2.2.2.2.2.2.2.1, r.2.2.2.2.2.2.2.2.2.2.1, r.2.2.2.2.2.2.2.2.2.2.2.1, r.2.2.2.2.2.2.2.2.2.2.2.2).2.2.2.2.2.2.2.1, (0, r.2.1, r.2.2.1, r.2.2.2.1, r.2.2.2.2.1, r.2.2.2.2.2.1, r.2.2.2.2.2.2.1, r.2.2.2.2.2.2.2.1, r.2.2.2.2.2.2.2.2.1, r.2.2.2.2.2.2.2.2.2.1, r.2.2.2.2.2.2.2.2.2.2.1, r.2.2.2.2.2.2.2.2.2.2.2.1, r.2.2.2.2.2.2.2.2.2.2.2.2).2.2.2.2.2.2.2.2.1, (mDs (0, r.2.1, r.2.2.1, r.2.2.2.1, r.2.2.2.2.1, r.2.2.2.2.2.1, r.2.2.2.2.2.2.1, r.2.2.2.2.2.2.2.1, r.2.2.2.2.2.2.2.2.1, r.2.2.2.2.2.2.2.2.2.1, r.2.2.2.2.2.2.2.2.2.2.1, r.2.2.2.2.2.2.2.2.2.2.2.1, r.2.2.2.2.2.2.2.2.2.2.2.2).2.2.2.1 (0, r.2.1, r.2.2.1, r.2.2.2.1, r.2.2.2.2.1, r.2.2.2.2.2.1, r.2.2.2.2.2.2.1, r.2.2.2.2.2.2.2.1, r.2.2.2.2.2.2.2.2.1, r.2.2.2.2.2.2.2.2.2.1, r.2.2.2.2.2.2.2.2.2.2.1, r.2.2.2.2.2.2.2.2.2.2.2.1, r.2.2.2.2.2.2.2.2.2.2.2.2).2.2.2.2.1 st (0, r.2.1, r.2.2.1, r.2.2.2.1, r.2.2.2.2.1, r.2.2.2.2.2.1, r.2.2.2.2.2.2.1, r.2.2.2.2.2.2.2.1, r.2.2.2.2.2.2.2.2.1, r.2.2.2.2.2.2.2.2.2.1, r.2.2.2.2.2.2.2.2.2.2.1, r.2.2.2.2.2.2.2.2.2.2.2.1, r.2.2.2.2.2.2.2.2.2.2.2.2).2.2.2.2.2.2.2.2.2.1).2, (0, r.2.1, r.2.2.1, r.2.2.2.1, r.2.2.2.2.1, r.2.2.2.2.2.1, r.2.2.2.2.2.2.1, r.2.2.2.2.2.2.2.1, r.2.2.2.2.2.2.2.2.1, r.2.2.2.2.2.2.2.2.2.1, r.2.2.2.2.2.2.2.2.2.2.1, r.2.2.2.2.2.2.2.2.2.2.2.1, r.2.2.2.2.2.2.2.2.2.2.2.2).2.2.2.2.2.2.2.2.2.2.1, (0, r.2.1, r.2.2.1, r.2.2.2.1, r.2.2.2.2.1, r.2.2.2.2.2.1, r.2.2.2.2.2.2.1, r.2.2.2.2.2.2.2.1, r.2.2.2.2.2.2.2.2.1, r.2.2.2.2.2.2.2.2.2.1, r.2.2.2.2.2.2.2.2.2.2.1, r.2.2.2.2.2.2.2.2.2.2.2.1, r.2.2.2.2.2.2.2.2.2.2.2.2).2.2.2.2.2.2.2.2.2.2.2.1, (0, r.2.1, r.2.2.1, r.2.2.2.1, r.2.2.2.2.1, r.2.2.2.2.2.1, r.2.2.2.2.2.2.1, r.2.2.2.2.2.2.2.1, r.2.2.2.2.2.2.2.2.1, r.2.2.2.2.2.2.2.2.2.1, r.2.2.2.2.2.2.2.2.2.2.1, r.2.2.2.2.2.2.2.2.2.2.2.1, r.2.2.2.2.2.2.2.2.2.2.2.2).2.2.2.2.2.2.2.2.2.2.2.2)) H := hP
    have hD : va_D A (wMo G ad o ((0, r.2.1, r.2.2.1, r.2.2.2.1, r.2.2.2.2.1, r.2.2.2.2.2.1, r.2.2.2.2.2.2.1, r.2.2.2.2.2.2.2.1, r.2.2.2.2.2.2.2.2.1, r.2.2.2.2.2.2.2.2.2.1, r.2.2.2.2.2.2.2.2.2.2.1, r.2.2.2.2.2.2.2.2.2.2.2.1, r.2.2.2.2.2.2.2.2.2.2.2.2).1, (0, r.2.1, r.2.2.1, r.2.2.2.1, r.2.2.2.2.1, r.2.2.2.2.2.1, r.2.2.2.2.2.2.1, r.2.2.2.2.2.2.2.1, r.2.2.2.2.2.2.2.2.1, r.2.2.2.2.2.2.2.2.2.1, r.2.2.2.2.2.2.2.2.2.2.1, r.2.2.2.2.2.2.2.2.2.2.2.1, r.2.2.2.2.2.2.2.2.2.2.2.2).2.1, (0, r.2.1, r.2.2.1, r.2.2.2.1, r.2.2.2.2.1, r.2.2.2.2.2.1, r.2.2.2.2.2.2.1, r.2.2.2.2.2.2.2.1, r.2.2.2.2.2.2.2.2.1, r.2.2.2.2.2.2.2.2.2.1, r.2.2.2.2.2.2.2.2.2.2.1, r.2.2.2.2.2.2.2.2.2.2.2.1, r.2.2.2.2.2.2.2.2.2.2.2.2).2.2.1, (0, r.2.1, r.2.2.1, r.2.2.2.1, r.2.2.2.2.1, r.2.2.2.2.2.1, r.2.2.2.2.2.2.1, r.2.2.2.2.2.2.2.1, r.2.2.2.2.2.2.2.2.1, r.2.2.2.2.2.2.2.2.2.1, r.2.2.2.2.2.2.2.2.2.2.1, r.2.2.2.2.2.2.2.2.2.2.2.1, r.2.2.2.2.2.2.2.2.2.2.2.2).2.2.2.1, (0, r.2.1, r.2.2.1, r.2.2.2.1, r.2.2.2.2.1, r.2.2.2.2.2.1, r.2.2.2.2.2.2.1, r.2.2.2.2.2.2.2.1, r.2.2.2.2.2.2.2.2.1, r.2.2.2.2.2.2.2.2.2.1, r.2.2.2.2.2.2.2.2.2.2.1, r.2.2.2.2.2.2.2.2.2.2.2.1, r.2.2.2.2.2.2.2.2.2.2.2.2).2.2.2.2.1, (0, r.2.1, r.2.2.1, r.2.2.2.1, r.2.2.2.2.1, r.2.2.2.2.2.1, r.2.2.2.2.2.2.1, r.2.2.2.2.2.2.2.1, r.2.2.2.2.2.2.2.2.1, r.2.2.2.2.2.2.2.2.2.1, r.2.2.2.2.2.2.2.2.2.2.1, r.2.2.2.2.2.2.2.2.2.2.2.1, r.2.2.2.2.2.2.2.2.2.2.2.2).2.2.2.2.2.1, (0, r.2.1, r.2.2.1, r.2.2.2.1, r.2.2.2.2.1, r.2.2.2.2.2.1, r.2.2.2.2.2.2.1, r.2.2.2.2.2.2.2.1, r.2.2.2.2.2.2.2.2.1, r.2.2.2.2.2.2.2.2.2.1, r.2.2.2.2.2.2.2.2.2.2.1, r.2.2.2.2.2.2.2.2.2.2.2.1, r.2.2.2.2.2.2.2.2.2.2.2.2).2.2.2.2.2.2.1, (0, r.2.1, r.2.2.1, r.2.2.2.1, r.2.2.2.2.1, r.2.2.2.2.2.1, r.2.2.2.2.2.2.1, r.2.2.2.2.2.2.2.1, r.2.2.2.2.2.2.2.2.1, r.2.2.2.2.2.2.2.2.2.1, r.2.2.2.2.2.2.2.2.2.2.1, r.2.2.2.2.2.2.2.2.2.2.2.1, r.2.2.2.2.2.2.2.2.2.2.2.2).2.2.2.2.2.2.2.1, (0, r.2.1, r.2.2.1, r.2.2.2.1, r.2.2.2.2.1, r.2.2.2.2.2.1, r.2.2.2.2.2.2.1, r.2.2.2.2.2.2.2.1, r.2.2.2.2.2.2.2.2.1, r.2.2.2.2.2.2.2.2.2.1, r.2.2.2.2.2.2.2.2.2.2.1, r.2.2.2.2.2.2.2.2.2.2.2.1, r.2.2.2.2.2.2.2.2.2.2.2.2).2.2.2.2.2.2.2.2.1, (mDs (0, r.2.1, r.2.2.1, r.2.2.2.1, r.2.2.2.2.1, r.2.2.2.2.2.1, r.2.2.2.2.2.2.1, r.2.2.2.2.2.2.2.1, r.2.2.2.2.2.2.2.2.1, r.2.2.2.2.2.2.2.2.2.1, r.2.2.2.2.2.2.2.2.2.2.1, r.2.2.2.2.2.2.2.2.2.2.2.1, r.2.2.2.2.2.2.2.2.2.2.2.2).2.2.2.1 (0, r.2.1, r.2.2.1, r.2.2.2.1, r.2.2.2.2.1, r.2.2.2.2.2.1, r.2.2.2.2.2.2.1, r.2.2.2.2.2.2.2.1, r.2.2.2.2.2.2.2.2.1, r.2.2.2.2.2.2.2.2.2.1, r.2.2.2.2.2.2.2.2.2.2.1, r.2.2.2.2.2.2.2.2.2.2.2.1, r.2.2.2.2.2.2.2.2.2.2.2.2).2.2.2.2.1 st (0, r.2.1, r.2.2.1, r.2.2.2.1, r.2.2.2.2.1, r.2.2.2.2.2.1, r.2.2.2.2.2.2.1, r.2.2.2.2.2.2.2.1, r.2.2.2.2.2.2.2.2.1, r.2.2.2.2.2.2.2.2.2.1, r.2.2.2.2.2.2.2.2.2.2.1, r.2.2.2.2.2.2.2.2.2.2.2.1, r.2.2.2.2.2.2.2.2.2.2.2.2).2.2.2.2.2.2.2.2.2.1).2, (0, r.2.1, r.2.2.1, r.2.2.2.1, r.2.2.2.2.1, r.2.2.2.2.2.1, r.2.2.2.2.2.2.1, r.2.2.2.2.2.2.2.1, r.2.2.2.2.2.2.2.2.1, r.2.2.2.2.2.2.2.2.2.1, r.2.2.2.2.2.2.2.2.2.2.1, r.2.2.2.2.2.2.2.2.2.2.2.1, r.2.2.2.2.2.2.2.2.2.2.2.2).2.2.2.2.2.2.2.2.2.2.1, (0, r.2.1, r.2.2.1, r.2.2.2.1, r.2.2.2.2.1, r.2.2.2.2.2.1, r.2.2.2.2.2.2.1, r.2.2.2.2.2.2.2.1, r.2.2.2.2.2.2.2.2.1, r.2.2.2.2.2.2.2.2.2.1, r.2.2.2.2.2.2.2.2.2.2.1, r.2.2.2.2.2.2.2.2.2.2.2.1, r.2.2.2.2.2.2.2.2.2.2.2.2).2.2.2.2.2.2.2.2.2.2.2.1, (0, r.2.1, r.2.2.1, r.2.2.2.1, r.2.2.2.2.1, r.2.2.2.2.2.1, r.2.2.2.2.2.2.1, r.2.2.2.2.2.2.2.1, r.2.2.2.2.2.2.2.2.1, r.2.2.2.2.2.2.2.2.2.1, r.2.2.2.2.2.2.2.2.2.2.1, r.2.2.2.2.2.2.2.2.2.2.2.1, r.2.2.2.2.2.2.2.2.2.2.2.2).2.2.2.2.2.2.2.2.2.2.2.2)) := hD
    exact wr_iret hx hb hr hlk hS hP (by first | with_reducible rfl | (simp only [sld_eq, eq_true h6_1, ↓reduceIte]; done)) (by first | with_reducible rfl | (simp only [sld_eq, eq_true h6_1, ↓reduceIte]; done)) dX7_distinctSize_18
  · exact absurd rfl h6_1

set_option maxHeartbeats 4000000 in
set_option maxRecDepth 100000 in
theorem kn_X7_distinctSize (l : Launch) (G : GT) (ad : Nat → Nat) (o : Nat) (r : MoT) (st : Int32) (hk : ¬ okA st 0 2) : Wr l yX7_distinctSize wsX7_distinctSize { frames := 3, cells := 0, slots := 0, locals := 69 } G (wMo G ad o r) (wMo G ad o (1, r.2)) [.ref (ad o), .int st] (some (.int 0)) := by
  intro sz
  refine Met.ofW (cc := cX7_distinctSize) (maxL := 2) (ret := (some .int)) (by decide) rfl ?_
  intro p e s m args below meth c s₁ B hml hv
  obtain ⟨rfl, hsz, hP, hY, hD0⟩ := hv
  subst hsz
  have hD := hD0.self (sz := s.heap.size)
  generalize hAe : va_A (wMo G ad o r) s.heap.size = A at hD ⊢
  have hA : ∀ q : Nat, s.heap.size ≤ q → A q := fun q h => by rw [← hAe]; exact Or.inr h
  have hS : va_S A s.heap s.heap [] := va_S.rf
  have hx := B.exec
  have hb := B.bytes
  have hr := B.returns
  have hts := atoms_spec (ws := wsX7_distinctSize) B.pre
  have hown : s.vm.findClass RX7 = some m.cls := findClass_of_methodNamed B.named
  have hlk := B.notSynchronized
  have CF : CallFix p m c cX7_distinctSize 2 s _ wsX7_distinctSize RX7 := ⟨hx, hb, hml, hown, hts⟩
  have hl := lv_entry ([.ref (ad o), .int st]) (n := 2) (Nat.le_of_ble_eq_true rfl)
  rw [lg_entry_eq]
  generalize (lg_sl ([.ref (ad o), .int st]) ++ List.replicate (2 - (lg_sl ([.ref (ad o), .int st])).length) Slot.unset).toArray = ls at hl ⊢
  have hl : lv_has ls 2 [(0, .ref (ad o)), (1, .int st)] := hl
  refine lv_aload_n hx hb dX7_distinctSize_0 rfl (lv_at hl 0 rfl) ?_
  refine lv_iload_n hx hb dX7_distinctSize_1 rfl (lv_at hl 1 rfl) ?_
  refine lv_iconst (v := 2) hx hb dX7_distinctSize_2 (by decide) ?_
  refine wrV [] (wMo G ad o r) [] (wMo G ad o (1, r.2)) (As := [.int st, .int 2]) (rest := []) CF (kn_X7_noStream l G ad o r st 2 hk) (cwV 2 hts gX7_distinctSize_X7_noStream rfl rfl rfl (by decide +kernel) ⟨Nat.le_of_ble_eq_true rfl, Nat.le_of_ble_eq_true rfl⟩) hP hD hS hA hY rfl rfl (fst_Mo _ _ _ _ _) rfl hl.1 rfl (lv_room (Nat.le_of_ble_eq_true rfl)) dX7_distinctSize_3 ⟨Nat.zero_le _, Nat.zero_le _⟩ (fun H locs hP hD hS => ?_)
  have hP : va_P G.1 vwCl (wMo G ad o (1, r.2.1, r.2.2.1, r.2.2.2.1, r.2.2.2.2.1, r.2.2.2.2.2.1, r.2.2.2.2.2.2.1, r.2.2.2.2.2.2.2.1, r.2.2.2.2.2.2.2.2.1, r.2.2.2.2.2.2.2.2.2.1, r.2.2.2.2.2.2.2.2.2.2.1, r.2.2.2.2.2.2.2.2.2.2.2.1, r.2.2.2.2.2.2.2.2.2.2.2.2)) H := hP
  have hD : va_D A (wMo G ad o (1, r.2.1, r.2.2.1, r.2.2.2.1, r.2.2.2.2.1, r.2.2.2.2.2.1, r.2.2.2.2.2.2.1, r.2.2.2.2.2.2.2.1, r.2.2.2.2.2.2.2.2.1, r.2.2.2.2.2.2.2.2.2.1, r.2.2.2.2.2.2.2.2.2.2.1, r.2.2.2.2.2.2.2.2.2.2.2.1, r.2.2.2.2.2.2.2.2.2.2.2.2)) := hD
  refine lv_if_eq (tgt := 13) hx hb dX7_distinctSize_6 (by decide) (fun h6_1 => ?_) (fun h6_1 => ?_)
  · exact absurd h6_1 (by decide)
  · refine lv_iconst (v := 0) hx hb dX7_distinctSize_9 (by decide) ?_
    refine lv_goto (tgt := 18) hx hb dX7_distinctSize_10 (by decide) ?_
    exact wr_iret hx hb hr hlk hS hP (by first | with_reducible rfl | (simp only [sld_eq, h6_1, ↓reduceIte]; done)) (by first | with_reducible rfl | (simp only [sld_eq, h6_1, ↓reduceIte]; done)) dX7_distinctSize_18

set_option maxHeartbeats 4000000 in
set_option maxRecDepth 100000 in
theorem k_X7_distinctAt (l : Launch) (G : GT) (ad : Nat → Nat) (o : Nat) (r : MoT) (st pl : Int32) (h0 : okA st 0 2) (h1 : okA pl 0 ((mDn r.2.2.2.1 r.2.2.2.2.1 r.2.1 st r.2.2.2.2.2.2.2.2.2.1) - 1)) : Wr l yX7_distinctAt wsX7_distinctAt { frames := 3, cells := 0, slots := 0, locals := 69 } G (wMo G ad o r) (wMo G ad o (0, r.2.1, r.2.2.1, r.2.2.2.1, r.2.2.2.2.1, r.2.2.2.2.2.1, r.2.2.2.2.2.2.1, r.2.2.2.2.2.2.2.1, r.2.2.2.2.2.2.2.2.1, (mDs r.2.2.2.1 r.2.2.2.2.1 st r.2.2.2.2.2.2.2.2.2.1).2, r.2.2.2.2.2.2.2.2.2.2.1, r.2.2.2.2.2.2.2.2.2.2.2.1, r.2.2.2.2.2.2.2.2.2.2.2.2)) [.ref (ad o), .int st, .int pl] (some (.int (mHs (mDs r.2.2.2.1 r.2.2.2.2.1 st r.2.2.2.2.2.2.2.2.2.1).2 r.2.2.2.2.1 pl))) := by
  intro sz
  refine Met.ofW (cc := cX7_distinctAt) (maxL := 5) (ret := (some .int)) (by decide) rfl ?_
  intro p e s m args below meth c s₁ B hml hv
  obtain ⟨rfl, hsz, hP, hY, hD0⟩ := hv
  subst hsz
  have hD := hD0.self (sz := s.heap.size)
  generalize hAe : va_A (wMo G ad o r) s.heap.size = A at hD ⊢
  have hA : ∀ q : Nat, s.heap.size ≤ q → A q := fun q h => by rw [← hAe]; exact Or.inr h
  have hS : va_S A s.heap s.heap [] := va_S.rf
  have hx := B.exec
  have hb := B.bytes
  have hr := B.returns
  have hts := atoms_spec (ws := wsX7_distinctAt) B.pre
  have hown : s.vm.findClass RX7 = some m.cls := findClass_of_methodNamed B.named
  have hlk := B.notSynchronized
  have CF : CallFix p m c cX7_distinctAt 5 s _ wsX7_distinctAt RX7 := ⟨hx, hb, hml, hown, hts⟩
  have hl := lv_entry ([.ref (ad o), .int st, .int pl]) (n := 5) (Nat.le_of_ble_eq_true rfl)
  rw [lg_entry_eq]
  generalize (lg_sl ([.ref (ad o), .int st, .int pl]) ++ List.replicate (5 - (lg_sl ([.ref (ad o), .int st, .int pl])).length) Slot.unset).toArray = ls at hl ⊢
  have hl : lv_has ls 5 [(0, .ref (ad o)), (1, .int st), (2, .int pl)] := hl
  refine lv_iload_n hx hb dX7_distinctAt_0 rfl (lv_at hl 1 rfl) ?_
  refine lv_iconst (v := 0) hx hb dX7_distinctAt_1 (by decide) ?_
  refine lv_iconst (v := 2) hx hb dX7_distinctAt_2 (by decide) ?_
  refine rdS (w0 := ([] : va_W)) (As := [.int st, .int 0, .int 2]) (rest := []) CF (k_X7_in l G st 0 2 h0) (va_cwS 3 hts gX7_distinctAt_X7_in rfl rfl rfl (by decide +kernel) ⟨Nat.le_of_ble_eq_true rfl, Nat.le_of_ble_eq_true rfl⟩) va_P_nil hY rfl hl.1 rfl (lv_room (Nat.le_of_ble_eq_true rfl)) dX7_distinctAt_3 ⟨Nat.zero_le _, Nat.zero_le _⟩ ?_
  refine lv_istore_n (lv' := [(3, .int 1), (0, .ref (ad o)), (1, .int st), (2, .int pl)]) hx hb dX7_distinctAt_6 rfl hl (by decide) rfl (fun ls hl => ?_)
  refine lv_iload_n hx hb dX7_distinctAt_7 rfl (lv_at hl 0 rfl) ?_
  refine lv_if_eq (tgt := 30) hx hb dX7_distinctAt_8 (by decide) (fun h8_1 => ?_) (fun h8_1 => ?_)
  · exact absurd h8_1 (by decide)
  · refine lv_iload_n hx hb dX7_distinctAt_11 rfl (lv_at hl 3 rfl) ?_
    refine lv_iconst (v := 0) hx hb dX7_distinctAt_12 (by decide) ?_
    refine lv_aload_n hx hb dX7_distinctAt_13 rfl (lv_at hl 1 rfl) ?_
    refine lv_iload_n hx hb dX7_distinctAt_14 rfl (lv_at hl 2 rfl) ?_
    refine wrV [] (wMo G ad o r) [] (wMo G ad o (r.1, r.2.1, r.2.2.1, r.2.2.2.1, r.2.2.2.2.1, r.2.2.2.2.2.1, r.2.2.2.2.2.2.1, r.2.2.2.2.2.2.2.1, r.2.2.2.2.2.2.2.2.1, (mDs r.2.2.2.1 r.2.2.2.2.1 st r.2.2.2.2.2.2.2.2.2.1).2, r.2.2.2.2.2.2.2.2.2.2.1, r.2.2.2.2.2.2.2.2.2.2.2.1, r.2.2.2.2.2.2.2.2.2.2.2.2)) (As := [.int st]) (rest := [.int 0, .int pl]) CF (k_X7_distinctIn l G ad o r st) (cwV 1 hts gX7_distinctAt_X7_distinctIn rfl rfl rfl (by decide +kernel) ⟨Nat.le_of_ble_eq_true rfl, Nat.le_of_ble_eq_true rfl⟩) hP hD hS hA hY rfl rfl (fst_Mo _ _ _ _ _) rfl hl.1 rfl (lv_room (Nat.le_of_ble_eq_true rfl)) dX7_distinctAt_15 ⟨Nat.zero_le _, Nat.zero_le _⟩ (fun H locs hP hD hS => ?_)
    have hP : va_P G.1 vwCl (wMo G ad o (r.1, r.2.1, r.2.2.1, r.2.2.2.1, r.2.2.2.2.1, r.2.2.2.2.2.1, r.2.2.2.2.2.2.1, r.2.2.2.2.2.2.2.1, r.2.2.2.2.2.2.2.2.1, (mDs r.2.2.2.1 r.2.2.2.2.1 st r.2.2.2.2.2.2.2.2.2.1).2, r.2.2.2.2.2.2.2.2.2.2.1, r.2.2.2.2.2.2.2.2.2.2.2.1, r.2.2.2.2.2.2.2.2.2.2.2.2)) H := hP
    have hD : va_D A (wMo G ad o (r.1, r.2.1, r.2.2.1, r.2.2.2.1, r.2.2.2.2.1, r.2.2.2.2.2.1, r.2.2.2.2.2.2.1, r.2.2.2.2.2.2.2.1, r.2.2.2.2.2.2.2.2.1, (mDs r.2.2.2.1 r.2.2.2.2.1 st r.2.2.2.2.2.2.2.2.2.1).2, r.2.2.2.2.2.2.2.2.2.2.1, r.2.2.2.2.2.2.2.2.2.2.2.1, r.2.2.2.2.2.2.2.2.2.2.2.2)) := hD
    refine lv_iconst (v := 1) hx hb dX7_distinctAt_18 (by decide) ?_
    refine lv_isub hx hb dX7_distinctAt_19 ?_
    refine rdS (w0 := ([] : va_W)) (As := [.int pl, .int 0, .int ((mDn r.2.2.2.1 r.2.2.2.2.1 r.2.1 st r.2.2.2.2.2.2.2.2.2.1) - 1)]) (rest := []) CF (k_X7_in l G pl 0 ((mDn r.2.2.2.1 r.2.2.2.2.1 r.2.1 st r.2.2.2.2.2.2.2.2.2.1) - 1) h1) (va_cwS 3 hts gX7_distinctAt_X7_in rfl rfl rfl (by decide +kernel) ⟨Nat.le_of_ble_eq_true rfl, Nat.le_of_ble_eq_true rfl⟩) va_P_nil hY rfl hl.1 rfl (lv_room (Nat.le_of_ble_eq_true rfl)) dX7_distinctAt_20 ⟨Nat.zero_le _, Nat.zero_le _⟩ ?_
    refine lv_if_eq (tgt := 30) hx hb dX7_distinctAt_23 (by decide) (fun h23_2 => ?_) (fun h23_2 => ?_)
    · exact absurd h23_2 (by decide)
    · refine lv_iconst (v := 1) hx hb dX7_distinctAt_26 (by decide) ?_
      refine lv_goto (tgt := 31) hx hb dX7_distinctAt_27 (by decide) ?_
      refine lv_istore (lv' := [(4, .int 1), (3, .int 1), (0, .ref (ad o)), (1, .int st), (2, .int pl)]) hx hb dX7_distinctAt_31 hl (by decide) rfl (fun ls hl => ?_)
      refine lv_aload_n hx hb dX7_distinctAt_33 rfl (lv_at hl 2 rfl) ?_
      refine lv_iload_n hx hb dX7_distinctAt_34 rfl (lv_at hl 1 rfl) ?_
      refine lv_if_ne (tgt := 42) hx hb dX7_distinctAt_35 (by decide) (fun h35_3 => ?_) (fun h35_3 => ?_)
      · refine lv_iload hx hb dX7_distinctAt_42 (lv_at hl 0 rfl) ?_
        refine lv_if_eq (tgt := 51) hx hb dX7_distinctAt_44 (by decide) (fun h44_4 => ?_) (fun h44_4 => ?_)
        · exact absurd h44_4 (by decide)
        · refine lv_iconst (v := 0) hx hb dX7_distinctAt_47 (by decide) ?_
          refine lv_goto (tgt := 52) hx hb dX7_distinctAt_48 (by decide) ?_
          refine wrV [] (wMo G ad o (r.1, r.2.1, r.2.2.1, r.2.2.2.1, r.2.2.2.2.1, r.2.2.2.2.2.1, r.2.2.2.2.2.2.1, r.2.2.2.2.2.2.2.1, r.2.2.2.2.2.2.2.2.1, (mDs r.2.2.2.1 r.2.2.2.2.1 st r.2.2.2.2.2.2.2.2.2.1).2, r.2.2.2.2.2.2.2.2.2.2.1, r.2.2.2.2.2.2.2.2.2.2.2.1, r.2.2.2.2.2.2.2.2.2.2.2.2)) [] (wMo G ad o (0, (r.1, r.2.1, r.2.2.1, r.2.2.2.1, r.2.2.2.2.1, r.2.2.2.2.2.1, r.2.2.2.2.2.2.1, r.2.2.2.2.2.2.2.1, r.2.2.2.2.2.2.2.2.1, (mDs r.2.2.2.1 r.2.2.2.2.1 st r.2.2.2.2.2.2.2.2.2.1).2, r.2.2.2.2.2.2.2.2.2.2.1, r.2.2.2.2.2.2.2.2.2.2.2.1, r.2.2.2.2.2.2.2.2.2.2.2.2).2)) (As := [.int 0]) (rest := []) CF (k0_X7_refused l G ad o (r.1, r.2.1, r.2.2.1, r.2.2.2.1, r.2.2.2.2.1, r.2.2.2.2.2.1, r.2.2.2.2.2.2.1, r.2.2.2.2.2.2.2.1, r.2.2.2.2.2.2.2.2.1, (mDs r.2.2.2.1 r.2.2.2.2.1 st r.2.2.2.2.2.2.2.2.2.1).2, r.2.2.2.2.2.2.2.2.2.2.1, r.2.2.2.2.2.2.2.2.2.2.2.1, r.2.2.2.2.2.2.2.2.2.2.2.2) 0 rfl) (cwV 1 hts gX7_distinctAt_X7_refused rfl rfl rfl (by decide +kernel) ⟨Nat.le_of_ble_eq_true rfl, Nat.le_of_ble_eq_true rfl⟩) hP hD hS hA hY rfl rfl (fst_Mo _ _ _ _ _) rfl hl.1 rfl (lv_room (Nat.le_of_ble_eq_true rfl)) dX7_distinctAt_52 ⟨Nat.zero_le _, Nat.zero_le _⟩ (fun H locs hP hD hS => ?_)
          have hP : va_P G.1 vwCl (wMo G ad o (0, r.2.1, r.2.2.1, r.2.2.2.1, r.2.2.2.2.1, r.2.2.2.2.2.1, r.2.2.2.2.2.2.1, r.2.2.2.2.2.2.2.1, r.2.2.2.2.2.2.2.2.1, (mDs r.2.2.2.1 r.2.2.2.2.1 st r.2.2.2.2.2.2.2.2.2.1).2, r.2.2.2.2.2.2.2.2.2.2.1, r.2.2.2.2.2.2.2.2.2.2.2.1, r.2.2.2.2.2.2.2.2.2.2.2.2)) H := hP
          have hD : va_D A (wMo G ad o (0, r.2.1, r.2.2.1, r.2.2.2.1, r.2.2.2.2.1, r.2.2.2.2.2.1, r.2.2.2.2.2.2.1, r.2.2.2.2.2.2.2.1, r.2.2.2.2.2.2.2.2.1, (mDs r.2.2.2.1 r.2.2.2.2.1 st r.2.2.2.2.2.2.2.2.2.1).2, r.2.2.2.2.2.2.2.2.2.2.1, r.2.2.2.2.2.2.2.2.2.2.2.1, r.2.2.2.2.2.2.2.2.2.2.2.2)) := hD
          refine lv_if_eq (tgt := 62) hx hb dX7_distinctAt_55 (by decide) (fun h55_5 => ?_) (fun h55_5 => ?_)
          · refine lv_aload_n hx hb dX7_distinctAt_62 rfl (lv_at hl 2 rfl) ?_
            refine lv_iload_n hx hb dX7_distinctAt_63 rfl (lv_at hl 4 rfl) ?_
            refine rdV (w0 := (wMo G ad o (0, r.2.1, r.2.2.1, r.2.2.2.1, r.2.2.2.2.1, r.2.2.2.2.2.1, r.2.2.2.2.2.2.1, r.2.2.2.2.2.2.2.1, r.2.2.2.2.2.2.2.2.1, (mDs r.2.2.2.1 r.2.2.2.2.1 st r.2.2.2.2.2.2.2.2.2.1).2, r.2.2.2.2.2.2.2.2.2.2.1, r.2.2.2.2.2.2.2.2.2.2.2.1, r.2.2.2.2.2.2.2.2.2.2.2.2))) (As := [.int pl]) (rest := []) CF (k_X7_hashed l G ad o (0, r.2.1, r.2.2.1, r.2.2.2.1, r.2.2.2.2.1, r.2.2.2.2.2.1, r.2.2.2.2.2.2.1, r.2.2.2.2.2.2.2.1, r.2.2.2.2.2.2.2.2.1, (mDs r.2.2.2.1 r.2.2.2.2.1 st r.2.2.2.2.2.2.2.2.2.1).2, r.2.2.2.2.2.2.2.2.2.2.1, r.2.2.2.2.2.2.2.2.2.2.2.1, r.2.2.2.2.2.2.2.2.2.2.2.2) pl) (cwV 1 hts gX7_distinctAt_X7_hashed rfl rfl rfl (by decide +kernel) ⟨Nat.le_of_ble_eq_true rfl, Nat.le_of_ble_eq_true rfl⟩) hP hY rfl rfl rfl hl.1 rfl (lv_room (Nat.le_of_ble_eq_true rfl)) dX7_distinctAt_64 ⟨Nat.zero_le _, Nat.zero_le _⟩ ?_
            exact wr_iret hx hb hr hlk hS hP (by first | with_reducible rfl | (simp only [sld_eq, h8_1, h23_2, h35_3, h44_4, eq_true h55_5, ↓reduceIte]; done)) (by first | with_reducible rfl | (simp only [sld_eq, h8_1, h23_2, h35_3, h44_4, eq_true h55_5, ↓reduceIte]; done)) dX7_distinctAt_67
          · exact absurd rfl h55_5
      · exact absurd h35_3 (by decide)

set_option maxHeartbeats 4000000 in
set_option maxRecDepth 100000 in
theorem km_X7_distinctAt (l : Launch) (G : GT) (ad : Nat → Nat) (o : Nat) (r : MoT) (st pl : Int32) (h0 : okA st 0 2) (h1 : ¬ okA pl 0 ((mDn r.2.2.2.1 r.2.2.2.2.1 r.2.1 st r.2.2.2.2.2.2.2.2.2.1) - 1)) : Wr l yX7_distinctAt wsX7_distinctAt { frames := 3, cells := 0, slots := 0, locals := 69 } G (wMo G ad o r) (wMo G ad o (2, r.2.1, r.2.2.1, r.2.2.2.1, r.2.2.2.2.1, r.2.2.2.2.2.1, r.2.2.2.2.2.2.1, r.2.2.2.2.2.2.2.1, r.2.2.2.2.2.2.2.2.1, (mDs r.2.2.2.1 r.2.2.2.2.1 st r.2.2.2.2.2.2.2.2.2.1).2, r.2.2.2.2.2.2.2.2.2.2.1, r.2.2.2.2.2.2.2.2.2.2.2.1, r.2.2.2.2.2.2.2.2.2.2.2.2)) [.ref (ad o), .int st, .int pl] (some (.int (-1))) := by
  intro sz
  refine Met.ofW (cc := cX7_distinctAt) (maxL := 5) (ret := (some .int)) (by decide) rfl ?_
  intro p e s m args below meth c s₁ B hml hv
  obtain ⟨rfl, hsz, hP, hY, hD0⟩ := hv
  subst hsz
  have hD := hD0.self (sz := s.heap.size)
  generalize hAe : va_A (wMo G ad o r) s.heap.size = A at hD ⊢
  have hA : ∀ q : Nat, s.heap.size ≤ q → A q := fun q h => by rw [← hAe]; exact Or.inr h
  have hS : va_S A s.heap s.heap [] := va_S.rf
  have hx := B.exec
  have hb := B.bytes
  have hr := B.returns
  have hts := atoms_spec (ws := wsX7_distinctAt) B.pre
  have hown : s.vm.findClass RX7 = some m.cls := findClass_of_methodNamed B.named
  have hlk := B.notSynchronized
  have CF : CallFix p m c cX7_distinctAt 5 s _ wsX7_distinctAt RX7 := ⟨hx, hb, hml, hown, hts⟩
  have hl := lv_entry ([.ref (ad o), .int st, .int pl]) (n := 5) (Nat.le_of_ble_eq_true rfl)
  rw [lg_entry_eq]
  generalize (lg_sl ([.ref (ad o), .int st, .int pl]) ++ List.replicate (5 - (lg_sl ([.ref (ad o), .int st, .int pl])).length) Slot.unset).toArray = ls at hl ⊢
  have hl : lv_has ls 5 [(0, .ref (ad o)), (1, .int st), (2, .int pl)] := hl
  refine lv_iload_n hx hb dX7_distinctAt_0 rfl (lv_at hl 1 rfl) ?_
  refine lv_iconst (v := 0) hx hb dX7_distinctAt_1 (by decide) ?_
  refine lv_iconst (v := 2) hx hb dX7_distinctAt_2 (by decide) ?_
  refine rdS (w0 := ([] : va_W)) (As := [.int st, .int 0, .int 2]) (rest := []) CF (k_X7_in l G st 0 2 h0) (va_cwS 3 hts gX7_distinctAt_X7_in rfl rfl rfl (by decide +kernel) ⟨Nat.le_of_ble_eq_true rfl, Nat.le_of_ble_eq_true rfl⟩) va_P_nil hY rfl hl.1 rfl (lv_room (Nat.le_of_ble_eq_true rfl)) dX7_distinctAt_3 ⟨Nat.zero_le _, Nat.zero_le _⟩ ?_
  refine lv_istore_n (lv' := [(3, .int 1), (0, .ref (ad o)), (1, .int st), (2, .int pl)]) hx hb dX7_distinctAt_6 rfl hl (by decide) rfl (fun ls hl => ?_)
  refine lv_iload_n hx hb dX7_distinctAt_7 rfl (lv_at hl 0 rfl) ?_
  refine lv_if_eq (tgt := 30) hx hb dX7_distinctAt_8 (by decide) (fun h8_1 => ?_) (fun h8_1 => ?_)
  · exact absurd h8_1 (by decide)
  · refine lv_iload_n hx hb dX7_distinctAt_11 rfl (lv_at hl 3 rfl) ?_
    refine lv_iconst (v := 0) hx hb dX7_distinctAt_12 (by decide) ?_
    refine lv_aload_n hx hb dX7_distinctAt_13 rfl (lv_at hl 1 rfl) ?_
    refine lv_iload_n hx hb dX7_distinctAt_14 rfl (lv_at hl 2 rfl) ?_
    refine wrV [] (wMo G ad o r) [] (wMo G ad o (r.1, r.2.1, r.2.2.1, r.2.2.2.1, r.2.2.2.2.1, r.2.2.2.2.2.1, r.2.2.2.2.2.2.1, r.2.2.2.2.2.2.2.1, r.2.2.2.2.2.2.2.2.1, (mDs r.2.2.2.1 r.2.2.2.2.1 st r.2.2.2.2.2.2.2.2.2.1).2, r.2.2.2.2.2.2.2.2.2.2.1, r.2.2.2.2.2.2.2.2.2.2.2.1, r.2.2.2.2.2.2.2.2.2.2.2.2)) (As := [.int st]) (rest := [.int 0, .int pl]) CF (k_X7_distinctIn l G ad o r st) (cwV 1 hts gX7_distinctAt_X7_distinctIn rfl rfl rfl (by decide +kernel) ⟨Nat.le_of_ble_eq_true rfl, Nat.le_of_ble_eq_true rfl⟩) hP hD hS hA hY rfl rfl (fst_Mo _ _ _ _ _) rfl hl.1 rfl (lv_room (Nat.le_of_ble_eq_true rfl)) dX7_distinctAt_15 ⟨Nat.zero_le _, Nat.zero_le _⟩ (fun H locs hP hD hS => ?_)
    have hP : va_P G.1 vwCl (wMo G ad o (r.1, r.2.1, r.2.2.1, r.2.2.2.1, r.2.2.2.2.1, r.2.2.2.2.2.1, r.2.2.2.2.2.2.1, r.2.2.2.2.2.2.2.1, r.2.2.2.2.2.2.2.2.1, (mDs r.2.2.2.1 r.2.2.2.2.1 st r.2.2.2.2.2.2.2.2.2.1).2, r.2.2.2.2.2.2.2.2.2.2.1, r.2.2.2.2.2.2.2.2.2.2.2.1, r.2.2.2.2.2.2.2.2.2.2.2.2)) H := hP
    have hD : va_D A (wMo G ad o (r.1, r.2.1, r.2.2.1, r.2.2.2.1, r.2.2.2.2.1, r.2.2.2.2.2.1, r.2.2.2.2.2.2.1, r.2.2.2.2.2.2.2.1, r.2.2.2.2.2.2.2.2.1, (mDs r.2.2.2.1 r.2.2.2.2.1 st r.2.2.2.2.2.2.2.2.2.1).2, r.2.2.2.2.2.2.2.2.2.2.1, r.2.2.2.2.2.2.2.2.2.2.2.1, r.2.2.2.2.2.2.2.2.2.2.2.2)) := hD
    refine lv_iconst (v := 1) hx hb dX7_distinctAt_18 (by decide) ?_
    refine lv_isub hx hb dX7_distinctAt_19 ?_
    refine rdS (w0 := ([] : va_W)) (As := [.int pl, .int 0, .int ((mDn r.2.2.2.1 r.2.2.2.2.1 r.2.1 st r.2.2.2.2.2.2.2.2.2.1) - 1)]) (rest := []) CF (kn_X7_in l G pl 0 ((mDn r.2.2.2.1 r.2.2.2.2.1 r.2.1 st r.2.2.2.2.2.2.2.2.2.1) - 1) h1) (va_cwS 3 hts gX7_distinctAt_X7_in rfl rfl rfl (by decide +kernel) ⟨Nat.le_of_ble_eq_true rfl, Nat.le_of_ble_eq_true rfl⟩) va_P_nil hY rfl hl.1 rfl (lv_room (Nat.le_of_ble_eq_true rfl)) dX7_distinctAt_20 ⟨Nat.zero_le _, Nat.zero_le _⟩ ?_
    refine lv_if_eq (tgt := 30) hx hb dX7_distinctAt_23 (by decide) (fun h23_2 => ?_) (fun h23_2 => ?_)
    · refine lv_iconst (v := 0) hx hb dX7_distinctAt_30 (by decide) ?_
      refine lv_istore (lv' := [(4, .int 0), (3, .int 1), (0, .ref (ad o)), (1, .int st), (2, .int pl)]) hx hb dX7_distinctAt_31 hl (by decide) rfl (fun ls hl => ?_)
      refine lv_aload_n hx hb dX7_distinctAt_33 rfl (lv_at hl 2 rfl) ?_
      refine lv_iload_n hx hb dX7_distinctAt_34 rfl (lv_at hl 1 rfl) ?_
      refine lv_if_ne (tgt := 42) hx hb dX7_distinctAt_35 (by decide) (fun h35_3 => ?_) (fun h35_3 => ?_)
      · refine lv_iload hx hb dX7_distinctAt_42 (lv_at hl 0 rfl) ?_
        refine lv_if_eq (tgt := 51) hx hb dX7_distinctAt_44 (by decide) (fun h44_4 => ?_) (fun h44_4 => ?_)
        · refine lv_iconst (v := 2) hx hb dX7_distinctAt_51 (by decide) ?_
          refine wrV [] (wMo G ad o (r.1, r.2.1, r.2.2.1, r.2.2.2.1, r.2.2.2.2.1, r.2.2.2.2.2.1, r.2.2.2.2.2.2.1, r.2.2.2.2.2.2.2.1, r.2.2.2.2.2.2.2.2.1, (mDs r.2.2.2.1 r.2.2.2.2.1 st r.2.2.2.2.2.2.2.2.2.1).2, r.2.2.2.2.2.2.2.2.2.2.1, r.2.2.2.2.2.2.2.2.2.2.2.1, r.2.2.2.2.2.2.2.2.2.2.2.2)) [] (wMo G ad o (2, (r.1, r.2.1, r.2.2.1, r.2.2.2.1, r.2.2.2.2.1, r.2.2.2.2.2.1, r.2.2.2.2.2.2.1, r.2.2.2.2.2.2.2.1, r.2.2.2.2.2.2.2.2.1, (mDs r.2.2.2.1 r.2.2.2.2.1 st r.2.2.2.2.2.2.2.2.2.1).2, r.2.2.2.2.2.2.2.2.2.2.1, r.2.2.2.2.2.2.2.2.2.2.2.1, r.2.2.2.2.2.2.2.2.2.2.2.2).2)) (As := [.int 2]) (rest := []) CF (k1_X7_refused l G ad o (r.1, r.2.1, r.2.2.1, r.2.2.2.1, r.2.2.2.2.1, r.2.2.2.2.2.1, r.2.2.2.2.2.2.1, r.2.2.2.2.2.2.2.1, r.2.2.2.2.2.2.2.2.1, (mDs r.2.2.2.1 r.2.2.2.2.1 st r.2.2.2.2.2.2.2.2.2.1).2, r.2.2.2.2.2.2.2.2.2.2.1, r.2.2.2.2.2.2.2.2.2.2.2.1, r.2.2.2.2.2.2.2.2.2.2.2.2) 2 (by decide)) (cwV 1 hts gX7_distinctAt_X7_refused rfl rfl rfl (by decide +kernel) ⟨Nat.le_of_ble_eq_true rfl, Nat.le_of_ble_eq_true rfl⟩) hP hD hS hA hY rfl rfl (fst_Mo _ _ _ _ _) rfl hl.1 rfl (lv_room (Nat.le_of_ble_eq_true rfl)) dX7_distinctAt_52 ⟨Nat.zero_le _, Nat.zero_le _⟩ (fun H locs hP hD hS => ?_)
          have hP : va_P G.1 vwCl (wMo G ad o (2, r.2.1, r.2.2.1, r.2.2.2.1, r.2.2.2.2.1, r.2.2.2.2.2.1, r.2.2.2.2.2.2.1, r.2.2.2.2.2.2.2.1, r.2.2.2.2.2.2.2.2.1, (mDs r.2.2.2.1 r.2.2.2.2.1 st r.2.2.2.2.2.2.2.2.2.1).2, r.2.2.2.2.2.2.2.2.2.2.1, r.2.2.2.2.2.2.2.2.2.2.2.1, r.2.2.2.2.2.2.2.2.2.2.2.2)) H := hP
          have hD : va_D A (wMo G ad o (2, r.2.1, r.2.2.1, r.2.2.2.1, r.2.2.2.2.1, r.2.2.2.2.2.1, r.2.2.2.2.2.2.1, r.2.2.2.2.2.2.2.1, r.2.2.2.2.2.2.2.2.1, (mDs r.2.2.2.1 r.2.2.2.2.1 st r.2.2.2.2.2.2.2.2.2.1).2, r.2.2.2.2.2.2.2.2.2.2.1, r.2.2.2.2.2.2.2.2.2.2.2.1, r.2.2.2.2.2.2.2.2.2.2.2.2)) := hD
          refine lv_if_eq (tgt := 62) hx hb dX7_distinctAt_55 (by decide) (fun h55_5 => ?_) (fun h55_5 => ?_)
          · exact absurd h55_5 (by decide)
          · refine lv_iconst (v := -1) hx hb dX7_distinctAt_58 (by decide) ?_
            refine lv_goto (tgt := 67) hx hb dX7_distinctAt_59 (by decide) ?_
            exact wr_iret hx hb hr hlk hS hP (by first | with_reducible rfl | (simp only [sld_eq, h8_1, eq_true h23_2, h35_3, eq_true h44_4, h55_5, ↓reduceIte]; done)) (by first | with_reducible rfl | (simp only [sld_eq, h8_1, eq_true h23_2, h35_3, eq_true h44_4, h55_5, ↓reduceIte]; done)) dX7_distinctAt_67
        · exact absurd rfl h44_4
      · exact absurd h35_3 (by decide)
    · exact absurd rfl h23_2

set_option maxHeartbeats 4000000 in
set_option maxRecDepth 100000 in
theorem kn_X7_distinctAt (l : Launch) (G : GT) (ad : Nat → Nat) (o : Nat) (r : MoT) (st pl : Int32) (hk : ¬ okA st 0 2) : Wr l yX7_distinctAt wsX7_distinctAt { frames := 3, cells := 0, slots := 0, locals := 69 } G (wMo G ad o r) (wMo G ad o (1, r.2)) [.ref (ad o), .int st, .int pl] (some (.int (-1))) := by
  intro sz
  refine Met.ofW (cc := cX7_distinctAt) (maxL := 5) (ret := (some .int)) (by decide) rfl ?_
  intro p e s m args below meth c s₁ B hml hv
  obtain ⟨rfl, hsz, hP, hY, hD0⟩ := hv
  subst hsz
  have hD := hD0.self (sz := s.heap.size)
  generalize hAe : va_A (wMo G ad o r) s.heap.size = A at hD ⊢
  have hA : ∀ q : Nat, s.heap.size ≤ q → A q := fun q h => by rw [← hAe]; exact Or.inr h
  have hS : va_S A s.heap s.heap [] := va_S.rf
  have hx := B.exec
  have hb := B.bytes
  have hr := B.returns
  have hts := atoms_spec (ws := wsX7_distinctAt) B.pre
  have hown : s.vm.findClass RX7 = some m.cls := findClass_of_methodNamed B.named
  have hlk := B.notSynchronized
  have CF : CallFix p m c cX7_distinctAt 5 s _ wsX7_distinctAt RX7 := ⟨hx, hb, hml, hown, hts⟩
  have hl := lv_entry ([.ref (ad o), .int st, .int pl]) (n := 5) (Nat.le_of_ble_eq_true rfl)
  rw [lg_entry_eq]
  generalize (lg_sl ([.ref (ad o), .int st, .int pl]) ++ List.replicate (5 - (lg_sl ([.ref (ad o), .int st, .int pl])).length) Slot.unset).toArray = ls at hl ⊢
  have hl : lv_has ls 5 [(0, .ref (ad o)), (1, .int st), (2, .int pl)] := hl
  refine lv_iload_n hx hb dX7_distinctAt_0 rfl (lv_at hl 1 rfl) ?_
  refine lv_iconst (v := 0) hx hb dX7_distinctAt_1 (by decide) ?_
  refine lv_iconst (v := 2) hx hb dX7_distinctAt_2 (by decide) ?_
  refine rdS (w0 := ([] : va_W)) (As := [.int st, .int 0, .int 2]) (rest := []) CF (kn_X7_in l G st 0 2 hk) (va_cwS 3 hts gX7_distinctAt_X7_in rfl rfl rfl (by decide +kernel) ⟨Nat.le_of_ble_eq_true rfl, Nat.le_of_ble_eq_true rfl⟩) va_P_nil hY rfl hl.1 rfl (lv_room (Nat.le_of_ble_eq_true rfl)) dX7_distinctAt_3 ⟨Nat.zero_le _, Nat.zero_le _⟩ ?_
  refine lv_istore_n (lv' := [(3, .int 0), (0, .ref (ad o)), (1, .int st), (2, .int pl)]) hx hb dX7_distinctAt_6 rfl hl (by decide) rfl (fun ls hl => ?_)
  refine lv_iload_n hx hb dX7_distinctAt_7 rfl (lv_at hl 0 rfl) ?_
  refine lv_if_eq (tgt := 30) hx hb dX7_distinctAt_8 (by decide) (fun h8_1 => ?_) (fun h8_1 => ?_)
  · refine lv_iconst (v := 0) hx hb dX7_distinctAt_30 (by decide) ?_
    refine lv_istore (lv' := [(4, .int 0), (3, .int 0), (0, .ref (ad o)), (1, .int st), (2, .int pl)]) hx hb dX7_distinctAt_31 hl (by decide) rfl (fun ls hl => ?_)
    refine lv_aload_n hx hb dX7_distinctAt_33 rfl (lv_at hl 2 rfl) ?_
    refine lv_iload_n hx hb dX7_distinctAt_34 rfl (lv_at hl 1 rfl) ?_
    refine lv_if_ne (tgt := 42) hx hb dX7_distinctAt_35 (by decide) (fun h35_2 => ?_) (fun h35_2 => ?_)
    · exact absurd rfl h35_2
    · refine lv_iconst (v := 1) hx hb dX7_distinctAt_38 (by decide) ?_
      refine lv_goto (tgt := 52) hx hb dX7_distinctAt_39 (by decide) ?_
      refine wrV [] (wMo G ad o r) [] (wMo G ad o (1, r.2)) (As := [.int 1]) (rest := []) CF (k1_X7_refused l G ad o r 1 (by decide)) (cwV 1 hts gX7_distinctAt_X7_refused rfl rfl rfl (by decide +kernel) ⟨Nat.le_of_ble_eq_true rfl, Nat.le_of_ble_eq_true rfl⟩) hP hD hS hA hY rfl rfl (fst_Mo _ _ _ _ _) rfl hl.1 rfl (lv_room (Nat.le_of_ble_eq_true rfl)) dX7_distinctAt_52 ⟨Nat.zero_le _, Nat.zero_le _⟩ (fun H locs hP hD hS => ?_)
      have hP : va_P G.1 vwCl (wMo G ad o (1, r.2.1, r.2.2.1, r.2.2.2.1, r.2.2.2.2.1, r.2.2.2.2.2.1, r.2.2.2.2.2.2.1, r.2.2.2.2.2.2.2.1, r.2.2.2.2.2.2.2.2.1, r.2.2.2.2.2.2.2.2.2.1, r.2.2.2.2.2.2.2.2.2.2.1, r.2.2.2.2.2.2.2.2.2.2.2.1, r.2.2.2.2.2.2.2.2.2.2.2.2)) H := hP
      have hD : va_D A (wMo G ad o (1, r.2.1, r.2.2.1, r.2.2.2.1, r.2.2.2.2.1, r.2.2.2.2.2.1, r.2.2.2.2.2.2.1, r.2.2.2.2.2.2.2.1, r.2.2.2.2.2.2.2.2.1, r.2.2.2.2.2.2.2.2.2.1, r.2.2.2.2.2.2.2.2.2.2.1, r.2.2.2.2.2.2.2.2.2.2.2.1, r.2.2.2.2.2.2.2.2.2.2.2.2)) := hD
      refine lv_if_eq (tgt := 62) hx hb dX7_distinctAt_55 (by decide) (fun h55_3 => ?_) (fun h55_3 => ?_)
      · exact absurd h55_3 (by decide)
      · refine lv_iconst (v := -1) hx hb dX7_distinctAt_58 (by decide) ?_
        refine lv_goto (tgt := 67) hx hb dX7_distinctAt_59 (by decide) ?_
        exact wr_iret hx hb hr hlk hS hP (by first | with_reducible rfl | (simp only [sld_eq, eq_true h8_1, eq_true h35_2, h55_3, ↓reduceIte]; done)) (by first | with_reducible rfl | (simp only [sld_eq, eq_true h8_1, eq_true h35_2, h55_3, ↓reduceIte]; done)) dX7_distinctAt_67
  · exact absurd rfl h8_1

set_option maxHeartbeats 4000000 in
set_option maxRecDepth 100000 in
theorem k_X7_distinctItem (l : Launch) (G : GT) (ad : Nat → Nat) (o : Nat) (r : MoT) (st pl : Int32) (h0 : okA st 0 2) (h1 : okA pl 0 ((mDn r.2.2.2.1 r.2.2.2.2.1 r.2.1 st r.2.2.2.2.2.2.2.2.2.1) - 1)) (hv : ¬ (mHs (mDs r.2.2.2.1 r.2.2.2.2.1 st r.2.2.2.2.2.2.2.2.2.1).2 r.2.2.2.2.1 pl) = (-1) ∧ vp_in (mHs (mDs r.2.2.2.1 r.2.2.2.2.1 st r.2.2.2.2.2.2.2.2.2.1).2 r.2.2.2.2.1 pl) 600) : Wr l yX7_distinctItem wsX7_distinctItem { frames := 4, cells := 0, slots := 0, locals := 93 } G (wMo G ad o r) (wMo G ad o (0, r.2.1, r.2.2.1, r.2.2.2.1, r.2.2.2.2.1, r.2.2.2.2.2.1, r.2.2.2.2.2.2.1, r.2.2.2.2.2.2.2.1, r.2.2.2.2.2.2.2.2.1, (mDs r.2.2.2.1 r.2.2.2.2.1 st r.2.2.2.2.2.2.2.2.2.1).2, r.2.2.2.2.2.2.2.2.2.2.1, r.2.2.2.2.2.2.2.2.2.2.2.1, r.2.2.2.2.2.2.2.2.2.2.2.2)) [.ref (ad o), .int st, .int pl] (some (.int (r.2.2.2.2.1 (mHs (mDs r.2.2.2.1 r.2.2.2.2.1 st r.2.2.2.2.2.2.2.2.2.1).2 r.2.2.2.2.1 pl).toNatClampNeg))) := by
  intro sz
  refine Met.ofW (cc := cX7_distinctItem) (maxL := 4) (ret := (some .int)) (by decide) rfl ?_
  intro p e s m args below meth c s₁ B hml hv
  obtain ⟨rfl, hsz, hP, hY, hD0⟩ := hv
  subst hsz
  have hD := hD0.self (sz := s.heap.size)
  generalize hAe : va_A (wMo G ad o r) s.heap.size = A at hD ⊢
  have hA : ∀ q : Nat, s.heap.size ≤ q → A q := fun q h => by rw [← hAe]; exact Or.inr h
  have hS : va_S A s.heap s.heap [] := va_S.rf
  have hx := B.exec
  have hb := B.bytes
  have hr := B.returns
  have hts := atoms_spec (ws := wsX7_distinctItem) B.pre
  have hown : s.vm.findClass RX7 = some m.cls := findClass_of_methodNamed B.named
  have hlk := B.notSynchronized
  have CF : CallFix p m c cX7_distinctItem 4 s _ wsX7_distinctItem RX7 := ⟨hx, hb, hml, hown, hts⟩
  have hiX7 : ∀ w ∈ wsX70, w ∈ wsX7_distinctItem := fun w h => (List.mem_cons_of_mem _ (List.mem_append_right _ h))
  have kf20 := hts (.fieldLink RX7 20 "ReservoirReedModel" "items" "[I") (List.mem_cons_of_mem _ (List.mem_append_left _ (List.mem_append_left _ (List.mem_of_getElem? (i := 0) rfl))))
  have hl := lv_entry ([.ref (ad o), .int st, .int pl]) (n := 4) (Nat.le_of_ble_eq_true rfl)
  rw [lg_entry_eq]
  generalize (lg_sl ([.ref (ad o), .int st, .int pl]) ++ List.replicate (4 - (lg_sl ([.ref (ad o), .int st, .int pl])).length) Slot.unset).toArray = ls at hl ⊢
  have hl : lv_has ls 4 [(0, .ref (ad o)), (1, .int st), (2, .int pl)] := hl
  refine lv_aload_n hx hb dX7_distinctItem_0 rfl (lv_at hl 0 rfl) ?_
  refine lv_iload_n hx hb dX7_distinctItem_1 rfl (lv_at hl 1 rfl) ?_
  refine lv_iload_n hx hb dX7_distinctItem_2 rfl (lv_at hl 2 rfl) ?_
  refine wrV [] (wMo G ad o r) [] (wMo G ad o (0, r.2.1, r.2.2.1, r.2.2.2.1, r.2.2.2.2.1, r.2.2.2.2.2.1, r.2.2.2.2.2.2.1, r.2.2.2.2.2.2.2.1, r.2.2.2.2.2.2.2.2.1, (mDs r.2.2.2.1 r.2.2.2.2.1 st r.2.2.2.2.2.2.2.2.2.1).2, r.2.2.2.2.2.2.2.2.2.2.1, r.2.2.2.2.2.2.2.2.2.2.2.1, r.2.2.2.2.2.2.2.2.2.2.2.2)) (As := [.int st, .int pl]) (rest := []) CF (k_X7_distinctAt l G ad o r st pl h0 h1) (cwV 2 hts gX7_distinctItem_X7_distinctAt rfl rfl rfl (by decide +kernel) ⟨Nat.le_of_ble_eq_true rfl, Nat.le_of_ble_eq_true rfl⟩) hP hD hS hA hY rfl rfl (fst_Mo _ _ _ _ _) rfl hl.1 rfl (lv_room (Nat.le_of_ble_eq_true rfl)) dX7_distinctItem_3 ⟨Nat.zero_le _, Nat.zero_le _⟩ (fun H locs hP hD hS => ?_)
  have hP : va_P G.1 vwCl (wMo G ad o (0, r.2.1, r.2.2.1, r.2.2.2.1, r.2.2.2.2.1, r.2.2.2.2.2.1, r.2.2.2.2.2.2.1, r.2.2.2.2.2.2.2.1, r.2.2.2.2.2.2.2.2.1, (mDs r.2.2.2.1 r.2.2.2.2.1 st r.2.2.2.2.2.2.2.2.2.1).2, r.2.2.2.2.2.2.2.2.2.2.1, r.2.2.2.2.2.2.2.2.2.2.2.1, r.2.2.2.2.2.2.2.2.2.2.2.2)) H := hP
  have hD : va_D A (wMo G ad o (0, r.2.1, r.2.2.1, r.2.2.2.1, r.2.2.2.2.1, r.2.2.2.2.2.1, r.2.2.2.2.2.2.1, r.2.2.2.2.2.2.2.1, r.2.2.2.2.2.2.2.2.1, (mDs r.2.2.2.1 r.2.2.2.2.1 st r.2.2.2.2.2.2.2.2.2.1).2, r.2.2.2.2.2.2.2.2.2.2.1, r.2.2.2.2.2.2.2.2.2.2.2.1, r.2.2.2.2.2.2.2.2.2.2.2.2)) := hD
  refine lv_istore_n (lv' := [(3, .int (mHs (mDs r.2.2.2.1 r.2.2.2.2.1 st r.2.2.2.2.2.2.2.2.2.1).2 r.2.2.2.2.1 pl)), (0, .ref (ad o)), (1, .int st), (2, .int pl)]) hx hb dX7_distinctItem_6 rfl hl (by decide) rfl (fun ls hl => ?_)
  refine lv_iload_n hx hb dX7_distinctItem_7 rfl (lv_at hl 0 rfl) ?_
  refine lv_iconst (v := -1) hx hb dX7_distinctItem_8 (by decide) ?_
  refine lv_icmp_ne (tgt := 16) hx hb dX7_distinctItem_9 (by decide) (fun h9_1 => ?_) (fun h9_1 => ?_)
  · refine lv_aload_n hx hb dX7_distinctItem_16 rfl (lv_at hl 1 rfl) ?_
    refine va_get (D := G.1) (ci := 7) (v := .ref (ad (o+2))) (C := RX7) (T := TX7) (N := 13) hx hb hts hiX7 hown hY.1 hP 0 rfl rfl 4 (by decide) kf20 (fun _ h9 => h9) rfl dX7_distinctItem_17 ?_
    refine lv_iload_n hx hb dX7_distinctItem_20 rfl (lv_at hl 0 rfl) ?_
    refine va_iald hx hb hY.1 hP 2 0 rfl rfl hv.2 dX7_distinctItem_21 ?_
    exact wr_iret hx hb hr hlk hS hP (by first | with_reducible rfl | (simp only [sld_eq, h9_1, ↓reduceIte]; done)) (by first | with_reducible rfl | (simp only [sld_eq, h9_1, ↓reduceIte]; done)) dX7_distinctItem_22
  · exact absurd h9_1 hv.1

set_option maxHeartbeats 4000000 in
set_option maxRecDepth 100000 in
theorem km_X7_distinctItem (l : Launch) (G : GT) (ad : Nat → Nat) (o : Nat) (r : MoT) (st pl : Int32) (h0 : okA st 0 2) (h1 : ¬ okA pl 0 ((mDn r.2.2.2.1 r.2.2.2.2.1 r.2.1 st r.2.2.2.2.2.2.2.2.2.1) - 1)) : Wr l yX7_distinctItem wsX7_distinctItem { frames := 4, cells := 0, slots := 0, locals := 93 } G (wMo G ad o r) (wMo G ad o (2, r.2.1, r.2.2.1, r.2.2.2.1, r.2.2.2.2.1, r.2.2.2.2.2.1, r.2.2.2.2.2.2.1, r.2.2.2.2.2.2.2.1, r.2.2.2.2.2.2.2.2.1, (mDs r.2.2.2.1 r.2.2.2.2.1 st r.2.2.2.2.2.2.2.2.2.1).2, r.2.2.2.2.2.2.2.2.2.2.1, r.2.2.2.2.2.2.2.2.2.2.2.1, r.2.2.2.2.2.2.2.2.2.2.2.2)) [.ref (ad o), .int st, .int pl] (some (.int 0)) := by
  intro sz
  refine Met.ofW (cc := cX7_distinctItem) (maxL := 4) (ret := (some .int)) (by decide) rfl ?_
  intro p e s m args below meth c s₁ B hml hv
  obtain ⟨rfl, hsz, hP, hY, hD0⟩ := hv
  subst hsz
  have hD := hD0.self (sz := s.heap.size)
  generalize hAe : va_A (wMo G ad o r) s.heap.size = A at hD ⊢
  have hA : ∀ q : Nat, s.heap.size ≤ q → A q := fun q h => by rw [← hAe]; exact Or.inr h
  have hS : va_S A s.heap s.heap [] := va_S.rf
  have hx := B.exec
  have hb := B.bytes
  have hr := B.returns
  have hts := atoms_spec (ws := wsX7_distinctItem) B.pre
  have hown : s.vm.findClass RX7 = some m.cls := findClass_of_methodNamed B.named
  have hlk := B.notSynchronized
  have CF : CallFix p m c cX7_distinctItem 4 s _ wsX7_distinctItem RX7 := ⟨hx, hb, hml, hown, hts⟩
  have hl := lv_entry ([.ref (ad o), .int st, .int pl]) (n := 4) (Nat.le_of_ble_eq_true rfl)
  rw [lg_entry_eq]
  generalize (lg_sl ([.ref (ad o), .int st, .int pl]) ++ List.replicate (4 - (lg_sl ([.ref (ad o), .int st, .int pl])).length) Slot.unset).toArray = ls at hl ⊢
  have hl : lv_has ls 4 [(0, .ref (ad o)), (1, .int st), (2, .int pl)] := hl
  refine lv_aload_n hx hb dX7_distinctItem_0 rfl (lv_at hl 0 rfl) ?_
  refine lv_iload_n hx hb dX7_distinctItem_1 rfl (lv_at hl 1 rfl) ?_
  refine lv_iload_n hx hb dX7_distinctItem_2 rfl (lv_at hl 2 rfl) ?_
  refine wrV [] (wMo G ad o r) [] (wMo G ad o (2, r.2.1, r.2.2.1, r.2.2.2.1, r.2.2.2.2.1, r.2.2.2.2.2.1, r.2.2.2.2.2.2.1, r.2.2.2.2.2.2.2.1, r.2.2.2.2.2.2.2.2.1, (mDs r.2.2.2.1 r.2.2.2.2.1 st r.2.2.2.2.2.2.2.2.2.1).2, r.2.2.2.2.2.2.2.2.2.2.1, r.2.2.2.2.2.2.2.2.2.2.2.1, r.2.2.2.2.2.2.2.2.2.2.2.2)) (As := [.int st, .int pl]) (rest := []) CF (km_X7_distinctAt l G ad o r st pl h0 h1) (cwV 2 hts gX7_distinctItem_X7_distinctAt rfl rfl rfl (by decide +kernel) ⟨Nat.le_of_ble_eq_true rfl, Nat.le_of_ble_eq_true rfl⟩) hP hD hS hA hY rfl rfl (fst_Mo _ _ _ _ _) rfl hl.1 rfl (lv_room (Nat.le_of_ble_eq_true rfl)) dX7_distinctItem_3 ⟨Nat.zero_le _, Nat.zero_le _⟩ (fun H locs hP hD hS => ?_)
  have hP : va_P G.1 vwCl (wMo G ad o (2, r.2.1, r.2.2.1, r.2.2.2.1, r.2.2.2.2.1, r.2.2.2.2.2.1, r.2.2.2.2.2.2.1, r.2.2.2.2.2.2.2.1, r.2.2.2.2.2.2.2.2.1, (mDs r.2.2.2.1 r.2.2.2.2.1 st r.2.2.2.2.2.2.2.2.2.1).2, r.2.2.2.2.2.2.2.2.2.2.1, r.2.2.2.2.2.2.2.2.2.2.2.1, r.2.2.2.2.2.2.2.2.2.2.2.2)) H := hP
  have hD : va_D A (wMo G ad o (2, r.2.1, r.2.2.1, r.2.2.2.1, r.2.2.2.2.1, r.2.2.2.2.2.1, r.2.2.2.2.2.2.1, r.2.2.2.2.2.2.2.1, r.2.2.2.2.2.2.2.2.1, (mDs r.2.2.2.1 r.2.2.2.2.1 st r.2.2.2.2.2.2.2.2.2.1).2, r.2.2.2.2.2.2.2.2.2.2.1, r.2.2.2.2.2.2.2.2.2.2.2.1, r.2.2.2.2.2.2.2.2.2.2.2.2)) := hD
  refine lv_istore_n (lv' := [(3, .int (-1)), (0, .ref (ad o)), (1, .int st), (2, .int pl)]) hx hb dX7_distinctItem_6 rfl hl (by decide) rfl (fun ls hl => ?_)
  refine lv_iload_n hx hb dX7_distinctItem_7 rfl (lv_at hl 0 rfl) ?_
  refine lv_iconst (v := -1) hx hb dX7_distinctItem_8 (by decide) ?_
  refine lv_icmp_ne (tgt := 16) hx hb dX7_distinctItem_9 (by decide) (fun h9_1 => ?_) (fun h9_1 => ?_)
  · exact absurd rfl h9_1
  · refine lv_iconst (v := 0) hx hb dX7_distinctItem_12 (by decide) ?_
    refine lv_goto (tgt := 22) hx hb dX7_distinctItem_13 (by decide) ?_
    exact wr_iret hx hb hr hlk hS hP (by first | with_reducible rfl | (simp only [sld_eq, eq_true h9_1, ↓reduceIte]; done)) (by first | with_reducible rfl | (simp only [sld_eq, eq_true h9_1, ↓reduceIte]; done)) dX7_distinctItem_22

set_option maxHeartbeats 4000000 in
set_option maxRecDepth 100000 in
theorem kn_X7_distinctItem (l : Launch) (G : GT) (ad : Nat → Nat) (o : Nat) (r : MoT) (st pl : Int32) (hk : ¬ okA st 0 2) : Wr l yX7_distinctItem wsX7_distinctItem { frames := 4, cells := 0, slots := 0, locals := 93 } G (wMo G ad o r) (wMo G ad o (1, r.2)) [.ref (ad o), .int st, .int pl] (some (.int 0)) := by
  intro sz
  refine Met.ofW (cc := cX7_distinctItem) (maxL := 4) (ret := (some .int)) (by decide) rfl ?_
  intro p e s m args below meth c s₁ B hml hv
  obtain ⟨rfl, hsz, hP, hY, hD0⟩ := hv
  subst hsz
  have hD := hD0.self (sz := s.heap.size)
  generalize hAe : va_A (wMo G ad o r) s.heap.size = A at hD ⊢
  have hA : ∀ q : Nat, s.heap.size ≤ q → A q := fun q h => by rw [← hAe]; exact Or.inr h
  have hS : va_S A s.heap s.heap [] := va_S.rf
  have hx := B.exec
  have hb := B.bytes
  have hr := B.returns
  have hts := atoms_spec (ws := wsX7_distinctItem) B.pre
  have hown : s.vm.findClass RX7 = some m.cls := findClass_of_methodNamed B.named
  have hlk := B.notSynchronized
  have CF : CallFix p m c cX7_distinctItem 4 s _ wsX7_distinctItem RX7 := ⟨hx, hb, hml, hown, hts⟩
  have hl := lv_entry ([.ref (ad o), .int st, .int pl]) (n := 4) (Nat.le_of_ble_eq_true rfl)
  rw [lg_entry_eq]
  generalize (lg_sl ([.ref (ad o), .int st, .int pl]) ++ List.replicate (4 - (lg_sl ([.ref (ad o), .int st, .int pl])).length) Slot.unset).toArray = ls at hl ⊢
  have hl : lv_has ls 4 [(0, .ref (ad o)), (1, .int st), (2, .int pl)] := hl
  refine lv_aload_n hx hb dX7_distinctItem_0 rfl (lv_at hl 0 rfl) ?_
  refine lv_iload_n hx hb dX7_distinctItem_1 rfl (lv_at hl 1 rfl) ?_
  refine lv_iload_n hx hb dX7_distinctItem_2 rfl (lv_at hl 2 rfl) ?_
  refine wrV [] (wMo G ad o r) [] (wMo G ad o (1, r.2)) (As := [.int st, .int pl]) (rest := []) CF (kn_X7_distinctAt l G ad o r st pl hk) (cwV 2 hts gX7_distinctItem_X7_distinctAt rfl rfl rfl (by decide +kernel) ⟨Nat.le_of_ble_eq_true rfl, Nat.le_of_ble_eq_true rfl⟩) hP hD hS hA hY rfl rfl (fst_Mo _ _ _ _ _) rfl hl.1 rfl (lv_room (Nat.le_of_ble_eq_true rfl)) dX7_distinctItem_3 ⟨Nat.zero_le _, Nat.zero_le _⟩ (fun H locs hP hD hS => ?_)
  have hP : va_P G.1 vwCl (wMo G ad o (1, r.2.1, r.2.2.1, r.2.2.2.1, r.2.2.2.2.1, r.2.2.2.2.2.1, r.2.2.2.2.2.2.1, r.2.2.2.2.2.2.2.1, r.2.2.2.2.2.2.2.2.1, r.2.2.2.2.2.2.2.2.2.1, r.2.2.2.2.2.2.2.2.2.2.1, r.2.2.2.2.2.2.2.2.2.2.2.1, r.2.2.2.2.2.2.2.2.2.2.2.2)) H := hP
  have hD : va_D A (wMo G ad o (1, r.2.1, r.2.2.1, r.2.2.2.1, r.2.2.2.2.1, r.2.2.2.2.2.1, r.2.2.2.2.2.2.1, r.2.2.2.2.2.2.2.1, r.2.2.2.2.2.2.2.2.1, r.2.2.2.2.2.2.2.2.2.1, r.2.2.2.2.2.2.2.2.2.2.1, r.2.2.2.2.2.2.2.2.2.2.2.1, r.2.2.2.2.2.2.2.2.2.2.2.2)) := hD
  refine lv_istore_n (lv' := [(3, .int (-1)), (0, .ref (ad o)), (1, .int st), (2, .int pl)]) hx hb dX7_distinctItem_6 rfl hl (by decide) rfl (fun ls hl => ?_)
  refine lv_iload_n hx hb dX7_distinctItem_7 rfl (lv_at hl 0 rfl) ?_
  refine lv_iconst (v := -1) hx hb dX7_distinctItem_8 (by decide) ?_
  refine lv_icmp_ne (tgt := 16) hx hb dX7_distinctItem_9 (by decide) (fun h9_1 => ?_) (fun h9_1 => ?_)
  · exact absurd rfl h9_1
  · refine lv_iconst (v := 0) hx hb dX7_distinctItem_12 (by decide) ?_
    refine lv_goto (tgt := 22) hx hb dX7_distinctItem_13 (by decide) ?_
    exact wr_iret hx hb hr hlk hS hP (by first | with_reducible rfl | (simp only [sld_eq, eq_true h9_1, ↓reduceIte]; done)) (by first | with_reducible rfl | (simp only [sld_eq, eq_true h9_1, ↓reduceIte]; done)) dX7_distinctItem_22

set_option maxHeartbeats 4000000 in
set_option maxRecDepth 100000 in
theorem k_X7_distinctOffers (l : Launch) (G : GT) (ad : Nat → Nat) (o : Nat) (r : MoT) (st pl : Int32) (h0 : okA st 0 2) (h1 : okA pl 0 ((mDn r.2.2.2.1 r.2.2.2.2.1 r.2.1 st r.2.2.2.2.2.2.2.2.2.1) - 1)) (hv : ¬ (mHs (mDs r.2.2.2.1 r.2.2.2.2.1 st r.2.2.2.2.2.2.2.2.2.1).2 r.2.2.2.2.1 pl) = (-1) ∧ vp_in (mHs (mDs r.2.2.2.1 r.2.2.2.2.1 st r.2.2.2.2.2.2.2.2.2.1).2 r.2.2.2.2.1 pl) 600) : Wr l yX7_distinctOffers wsX7_distinctOffers { frames := 4, cells := 0, slots := 0, locals := 93 } G (wMo G ad o r) (wMo G ad o (0, r.2.1, r.2.2.1, r.2.2.2.1, r.2.2.2.2.1, r.2.2.2.2.2.1, r.2.2.2.2.2.2.1, r.2.2.2.2.2.2.2.1, r.2.2.2.2.2.2.2.2.1, (mDs r.2.2.2.1 r.2.2.2.2.1 st r.2.2.2.2.2.2.2.2.2.1).2, r.2.2.2.2.2.2.2.2.2.2.1, r.2.2.2.2.2.2.2.2.2.2.2.1, r.2.2.2.2.2.2.2.2.2.2.2.2)) [.ref (ad o), .int st, .int pl] (some (.int (mDoL r.2.2.2.1 r.2.2.2.2.1 st (mHs (mDs r.2.2.2.1 r.2.2.2.2.1 st r.2.2.2.2.2.2.2.2.2.1).2 r.2.2.2.2.1 pl) (600 - 0 + 1) 0 0))) := by
  intro sz
  refine Met.ofW (cc := cX7_distinctOffers) (maxL := 6) (ret := (some .int)) (by decide) rfl ?_
  intro p e s m args below meth c s₁ B hml hv
  obtain ⟨rfl, hsz, hP, hY, hD0⟩ := hv
  subst hsz
  have hD := hD0.self (sz := s.heap.size)
  generalize hAe : va_A (wMo G ad o r) s.heap.size = A at hD ⊢
  have hA : ∀ q : Nat, s.heap.size ≤ q → A q := fun q h => by rw [← hAe]; exact Or.inr h
  have hS : va_S A s.heap s.heap [] := va_S.rf
  have hx := B.exec
  have hb := B.bytes
  have hr := B.returns
  have hts := atoms_spec (ws := wsX7_distinctOffers) B.pre
  have hown : s.vm.findClass RX7 = some m.cls := findClass_of_methodNamed B.named
  have hlk := B.notSynchronized
  have CF : CallFix p m c cX7_distinctOffers 6 s _ wsX7_distinctOffers RX7 := ⟨hx, hb, hml, hown, hts⟩
  have hiX7 : ∀ w ∈ wsX70, w ∈ wsX7_distinctOffers := fun w h => (List.mem_cons_of_mem _ (List.mem_append_right _ h))
  have kf20 := hts (.fieldLink RX7 20 "ReservoirReedModel" "items" "[I") (List.mem_cons_of_mem _ (List.mem_append_left _ (List.mem_append_left _ (List.mem_of_getElem? (i := 0) rfl))))
  have hl := lv_entry ([.ref (ad o), .int st, .int pl]) (n := 6) (Nat.le_of_ble_eq_true rfl)
  rw [lg_entry_eq]
  generalize (lg_sl ([.ref (ad o), .int st, .int pl]) ++ List.replicate (6 - (lg_sl ([.ref (ad o), .int st, .int pl])).length) Slot.unset).toArray = ls at hl ⊢
  have hl : lv_has ls 6 [(0, .ref (ad o)), (1, .int st), (2, .int pl)] := hl
  refine lv_aload_n hx hb dX7_distinctOffers_0 rfl (lv_at hl 0 rfl) ?_
  refine lv_iload_n hx hb dX7_distinctOffers_1 rfl (lv_at hl 1 rfl) ?_
  refine lv_iload_n hx hb dX7_distinctOffers_2 rfl (lv_at hl 2 rfl) ?_
  refine wrV [] (wMo G ad o r) [] (wMo G ad o (0, r.2.1, r.2.2.1, r.2.2.2.1, r.2.2.2.2.1, r.2.2.2.2.2.1, r.2.2.2.2.2.2.1, r.2.2.2.2.2.2.2.1, r.2.2.2.2.2.2.2.2.1, (mDs r.2.2.2.1 r.2.2.2.2.1 st r.2.2.2.2.2.2.2.2.2.1).2, r.2.2.2.2.2.2.2.2.2.2.1, r.2.2.2.2.2.2.2.2.2.2.2.1, r.2.2.2.2.2.2.2.2.2.2.2.2)) (As := [.int st, .int pl]) (rest := []) CF (k_X7_distinctAt l G ad o r st pl h0 h1) (cwV 2 hts gX7_distinctOffers_X7_distinctAt rfl rfl rfl (by decide +kernel) ⟨Nat.le_of_ble_eq_true rfl, Nat.le_of_ble_eq_true rfl⟩) hP hD hS hA hY rfl rfl (fst_Mo _ _ _ _ _) rfl hl.1 rfl (lv_room (Nat.le_of_ble_eq_true rfl)) dX7_distinctOffers_3 ⟨Nat.zero_le _, Nat.zero_le _⟩ (fun H locs hP hD hS => ?_)
  have hP : va_P G.1 vwCl (wMo G ad o (0, r.2.1, r.2.2.1, r.2.2.2.1, r.2.2.2.2.1, r.2.2.2.2.2.1, r.2.2.2.2.2.2.1, r.2.2.2.2.2.2.2.1, r.2.2.2.2.2.2.2.2.1, (mDs r.2.2.2.1 r.2.2.2.2.1 st r.2.2.2.2.2.2.2.2.2.1).2, r.2.2.2.2.2.2.2.2.2.2.1, r.2.2.2.2.2.2.2.2.2.2.2.1, r.2.2.2.2.2.2.2.2.2.2.2.2)) H := hP
  have hD : va_D A (wMo G ad o (0, r.2.1, r.2.2.1, r.2.2.2.1, r.2.2.2.2.1, r.2.2.2.2.2.1, r.2.2.2.2.2.2.1, r.2.2.2.2.2.2.2.1, r.2.2.2.2.2.2.2.2.1, (mDs r.2.2.2.1 r.2.2.2.2.1 st r.2.2.2.2.2.2.2.2.2.1).2, r.2.2.2.2.2.2.2.2.2.2.1, r.2.2.2.2.2.2.2.2.2.2.2.1, r.2.2.2.2.2.2.2.2.2.2.2.2)) := hD
  refine lv_istore_n (lv' := [(3, .int (mHs (mDs r.2.2.2.1 r.2.2.2.2.1 st r.2.2.2.2.2.2.2.2.2.1).2 r.2.2.2.2.1 pl)), (0, .ref (ad o)), (1, .int st), (2, .int pl)]) hx hb dX7_distinctOffers_6 rfl hl (by decide) rfl (fun ls hl => ?_)
  refine lv_iconst (v := 0) hx hb dX7_distinctOffers_7 (by decide) ?_
  refine lv_istore (lv' := [(4, .int 0), (3, .int (mHs (mDs r.2.2.2.1 r.2.2.2.2.1 st r.2.2.2.2.2.2.2.2.2.1).2 r.2.2.2.2.1 pl)), (0, .ref (ad o)), (1, .int st), (2, .int pl)]) hx hb dX7_distinctOffers_8 hl (by decide) rfl (fun ls hl => ?_)
  refine lv_iconst (v := 0) hx hb dX7_distinctOffers_10 (by decide) ?_
  refine lv_istore (lv' := [(5, .int 0), (4, .int 0), (3, .int (mHs (mDs r.2.2.2.1 r.2.2.2.2.1 st r.2.2.2.2.2.2.2.2.2.1).2 r.2.2.2.2.1 pl)), (0, .ref (ad o)), (1, .int st), (2, .int pl)]) hx hb dX7_distinctOffers_11 hl (by decide) rfl (fun ls hl => ?_)
  have loop1 : ∀ (fu : Nat) (b : Nat) (x : Int32), 600 - b < fu → mDoL r.2.2.2.1 r.2.2.2.2.1 st (mHs (mDs r.2.2.2.1 r.2.2.2.2.1 st r.2.2.2.2.2.2.2.2.2.1).2 r.2.2.2.2.1 pl) fu b x = mDoL r.2.2.2.1 r.2.2.2.2.1 st (mHs (mDs r.2.2.2.1 r.2.2.2.2.1 st r.2.2.2.2.2.2.2.2.2.1).2 r.2.2.2.2.1 pl) (600 - 0 + 1) 0 0 → b ≤ 600 → ∀ (H : Heap) (locs : List Loc) (ls : Array Slot), va_P G.1 vwCl (wMo G ad o (0, r.2.1, r.2.2.1, r.2.2.2.1, r.2.2.2.2.1, r.2.2.2.2.2.1, r.2.2.2.2.2.2.1, r.2.2.2.2.2.2.2.1, r.2.2.2.2.2.2.2.2.1, (mDs r.2.2.2.1 r.2.2.2.2.1 st r.2.2.2.2.2.2.2.2.2.1).2, r.2.2.2.2.2.2.2.2.2.2.1, r.2.2.2.2.2.2.2.2.2.2.2.1, r.2.2.2.2.2.2.2.2.2.2.2.2)) H → va_D A (wMo G ad o (0, r.2.1, r.2.2.1, r.2.2.2.1, r.2.2.2.2.1, r.2.2.2.2.2.1, r.2.2.2.2.2.2.1, r.2.2.2.2.2.2.2.1, r.2.2.2.2.2.2.2.2.1, (mDs r.2.2.2.1 r.2.2.2.2.1 st r.2.2.2.2.2.2.2.2.2.1).2, r.2.2.2.2.2.2.2.2.2.2.1, r.2.2.2.2.2.2.2.2.2.2.2.1, r.2.2.2.2.2.2.2.2.2.2.2.2)) → va_S A s.heap H locs → lv_has ls 6 [(4, .int x), (5, .int (nI b)), (3, .int (mHs (mDs r.2.2.2.1 r.2.2.2.2.1 st r.2.2.2.2.2.2.2.2.2.1).2 r.2.2.2.2.1 pl)), (0, .ref (ad o)), (1, .int st), (2, .int pl)] → W p l e (headSpec wsX7_distinctOffers { frames := 4, cells := 0, slots := 0, locals := 93 }).room s m ([.ref (ad o), .int st, .int pl] : List Value).toArray below meth c H locs 0 0 (MQ below (WQ (some (.int (mDoL r.2.2.2.1 r.2.2.2.2.1 st (mHs (mDs r.2.2.2.1 r.2.2.2.2.1 st r.2.2.2.2.2.2.2.2.2.1).2 r.2.2.2.2.1 pl) (600 - 0 + 1) 0 0))) G (wMo G ad o (0, r.2.1, r.2.2.1, r.2.2.2.1, r.2.2.2.2.1, r.2.2.2.2.2.1, r.2.2.2.2.2.2.1, r.2.2.2.2.2.2.2.1, r.2.2.2.2.2.2.2.2.1, (mDs r.2.2.2.1 r.2.2.2.2.1 st r.2.2.2.2.2.2.2.2.2.1).2, r.2.2.2.2.2.2.2.2.2.2.1, r.2.2.2.2.2.2.2.2.2.2.2.1, r.2.2.2.2.2.2.2.2.2.2.2.2)) A) ([.ref (ad o), .int st, .int pl] : List Value).toArray s 0 0 A) (F0 m 13 ls []) := by
    intro fu
    induction fu with
    | zero => intro b x hm; exact absurd hm (Nat.not_lt_zero _)
    | succ fu ih =>
      intro b x hm hR1 hqb H locs ls hP hD hS hl
      refine lv_iload hx hb dX7_distinctOffers_13 (lv_at hl 1 rfl) ?_
      refine lv_sipush (v := 600) hx hb dX7_distinctOffers_15 (by decide) ?_
      refine lv_icmp_ge (tgt := 68) hx hb dX7_distinctOffers_18 (by decide) (fun h18_1 => ?_) (fun h18_1 => ?_)
      · refine lv_iload hx hb dX7_distinctOffers_68 (lv_at hl 0 rfl) ?_
        exact wr_iret hx hb hr hlk hS hP (by first | with_reducible rfl | (simp only [sld_eq, ↓reduceIte]; rw [← hR1]; simp only [mDoL, h18_1, ↓reduceIte]) | (rw [← hR1]; simp only [mDoL, h18_1, ↓reduceIte])) (by first | with_reducible rfl | (simp only [sld_eq, ↓reduceIte]; rw [← hR1]; simp only [mDoL, h18_1, ↓reduceIte]) | (rw [← hR1]; simp only [mDoL, h18_1, ↓reduceIte])) dX7_distinctOffers_70
      · refine lv_iload_n hx hb dX7_distinctOffers_21 rfl (lv_at hl 2 rfl) ?_
        refine lv_iconst (v := -1) hx hb dX7_distinctOffers_22 (by decide) ?_
        refine lv_icmp_eq (tgt := 68) hx hb dX7_distinctOffers_23 (by decide) (fun h23_2 => ?_) (fun h23_2 => ?_)
        · exact absurd h23_2 hv.1
        · refine lv_iload hx hb dX7_distinctOffers_26 (lv_at hl 0 rfl) ?_
          refine lv_aload_n hx hb dX7_distinctOffers_28 rfl (lv_at hl 3 rfl) ?_
          refine lv_iload_n hx hb dX7_distinctOffers_29 rfl (lv_at hl 4 rfl) ?_
          refine lv_iload hx hb dX7_distinctOffers_30 (lv_at hl 1 rfl) ?_
          refine rdV (w0 := (wMo G ad o (0, r.2.1, r.2.2.1, r.2.2.2.1, r.2.2.2.2.1, r.2.2.2.2.2.1, r.2.2.2.2.2.2.1, r.2.2.2.2.2.2.2.1, r.2.2.2.2.2.2.2.2.1, (mDs r.2.2.2.1 r.2.2.2.2.1 st r.2.2.2.2.2.2.2.2.2.1).2, r.2.2.2.2.2.2.2.2.2.2.1, r.2.2.2.2.2.2.2.2.2.2.2.1, r.2.2.2.2.2.2.2.2.2.2.2.2))) (As := [.int st, .int (nI b)]) (rest := [.int x]) CF (k_X7_isOf l G ad o (0, r.2.1, r.2.2.1, r.2.2.2.1, r.2.2.2.2.1, r.2.2.2.2.2.1, r.2.2.2.2.2.2.1, r.2.2.2.2.2.2.2.1, r.2.2.2.2.2.2.2.2.1, (mDs r.2.2.2.1 r.2.2.2.2.1 st r.2.2.2.2.2.2.2.2.2.1).2, r.2.2.2.2.2.2.2.2.2.2.1, r.2.2.2.2.2.2.2.2.2.2.2.1, r.2.2.2.2.2.2.2.2.2.2.2.2) st (nI b) (of_in (lt600 hqb h18_1))) (cwV 2 hts gX7_distinctOffers_X7_isOf rfl rfl rfl (by decide +kernel) ⟨Nat.le_of_ble_eq_true rfl, Nat.le_of_ble_eq_true rfl⟩) hP hY rfl rfl rfl hl.1 rfl (lv_room (Nat.le_of_ble_eq_true rfl)) dX7_distinctOffers_32 ⟨Nat.zero_le _, Nat.zero_le _⟩ ?_
          refine lv_if_eq (tgt := 58) hx hb dX7_distinctOffers_35 (by decide) (fun h35_3 => ?_) (fun h35_3 => ?_)
          · refine lv_iconst (v := 0) hx hb dX7_distinctOffers_58 (by decide) ?_
            refine lv_iadd hx hb dX7_distinctOffers_59 ?_
            refine lv_istore (lv' := [(4, .int (x + 0)), (5, .int (nI b)), (3, .int (mHs (mDs r.2.2.2.1 r.2.2.2.2.1 st r.2.2.2.2.2.2.2.2.2.1).2 r.2.2.2.2.1 pl)), (0, .ref (ad o)), (1, .int st), (2, .int pl)]) hx hb dX7_distinctOffers_60 hl (by decide) rfl (fun ls hl => ?_)
            refine lv_iinc (v := (nI b) + 1) (lv' := [(5, .int ((nI b) + 1)), (4, .int (x + 0)), (3, .int (mHs (mDs r.2.2.2.1 r.2.2.2.2.1 st r.2.2.2.2.2.2.2.2.2.1).2 r.2.2.2.2.1 pl)), (0, .ref (ad o)), (1, .int st), (2, .int pl)]) hx hb dX7_distinctOffers_62 hl (k := 1) rfl rfl (by decide) rfl (fun ls hl => ?_)
            rw [show (nI b) + 1 = nI (b+1) from (nI_succ b).symm] at hl
            refine lv_goto (tgt := 13) hx hb dX7_distinctOffers_65 (by decide) ?_
            exact ih (b+1) (x + 0) (by have := (lt600 hqb h18_1); omega) (by rw [← hR1]; simp only [mDoL, h18_1, h23_2, eq_true h35_3, eq_false hv.1, ↓reduceIte]) (lt600 hqb h18_1) _ _ ls hP hD hS (lv_sub hl [1, 0, 2, 3, 4, 5] rfl)
          · refine lv_aload_n hx hb dX7_distinctOffers_38 rfl (lv_at hl 3 rfl) ?_
            refine va_get (D := G.1) (ci := 7) (v := .ref (ad (o+2))) (C := RX7) (T := TX7) (N := 13) hx hb hts hiX7 hown hY.1 hP 0 rfl rfl 4 (by decide) kf20 (fun _ h9 => h9) rfl dX7_distinctOffers_39 ?_
            refine lv_iload hx hb dX7_distinctOffers_42 (lv_at hl 1 rfl) ?_
            refine va_iald hx hb hY.1 hP 2 0 rfl rfl (vp_nI (lt600 hqb h18_1) (by decide)) dX7_distinctOffers_44 ?_
            refine lv_aload_n hx hb dX7_distinctOffers_45 rfl (lv_at hl 3 rfl) ?_
            refine va_get (D := G.1) (ci := 7) (v := .ref (ad (o+2))) (C := RX7) (T := TX7) (N := 13) hx hb hts hiX7 hown hY.1 hP 0 rfl rfl 4 (by decide) kf20 (fun _ h9 => h9) rfl dX7_distinctOffers_46 ?_
            refine lv_iload_n hx hb dX7_distinctOffers_49 rfl (lv_at hl 2 rfl) ?_
            refine va_iald hx hb hY.1 hP 2 0 rfl rfl hv.2 dX7_distinctOffers_50 ?_
            refine lv_icmp_ne (tgt := 58) hx hb dX7_distinctOffers_51 (by decide) (fun h51_4 => ?_) (fun h51_4 => ?_)
            · refine lv_iconst (v := 0) hx hb dX7_distinctOffers_58 (by decide) ?_
              refine lv_iadd hx hb dX7_distinctOffers_59 ?_
              refine lv_istore (lv' := [(4, .int (x + 0)), (5, .int (nI b)), (3, .int (mHs (mDs r.2.2.2.1 r.2.2.2.2.1 st r.2.2.2.2.2.2.2.2.2.1).2 r.2.2.2.2.1 pl)), (0, .ref (ad o)), (1, .int st), (2, .int pl)]) hx hb dX7_distinctOffers_60 hl (by decide) rfl (fun ls hl => ?_)
              refine lv_iinc (v := (nI b) + 1) (lv' := [(5, .int ((nI b) + 1)), (4, .int (x + 0)), (3, .int (mHs (mDs r.2.2.2.1 r.2.2.2.2.1 st r.2.2.2.2.2.2.2.2.2.1).2 r.2.2.2.2.1 pl)), (0, .ref (ad o)), (1, .int st), (2, .int pl)]) hx hb dX7_distinctOffers_62 hl (k := 1) rfl rfl (by decide) rfl (fun ls hl => ?_)
              rw [show (nI b) + 1 = nI (b+1) from (nI_succ b).symm] at hl
              refine lv_goto (tgt := 13) hx hb dX7_distinctOffers_65 (by decide) ?_
              exact ih (b+1) (x + 0) (by have := (lt600 hqb h18_1); omega) (by rw [← hR1]; simp only [mDoL, h18_1, h23_2, h35_3, h51_4, eq_false hv.1, ↓reduceIte]) (lt600 hqb h18_1) _ _ ls hP hD hS (lv_sub hl [1, 0, 2, 3, 4, 5] rfl)
            · refine lv_iconst (v := 1) hx hb dX7_distinctOffers_54 (by decide) ?_
              refine lv_goto (tgt := 59) hx hb dX7_distinctOffers_55 (by decide) ?_
              refine lv_iadd hx hb dX7_distinctOffers_59 ?_
              refine lv_istore (lv' := [(4, .int (x + 1)), (5, .int (nI b)), (3, .int (mHs (mDs r.2.2.2.1 r.2.2.2.2.1 st r.2.2.2.2.2.2.2.2.2.1).2 r.2.2.2.2.1 pl)), (0, .ref (ad o)), (1, .int st), (2, .int pl)]) hx hb dX7_distinctOffers_60 hl (by decide) rfl (fun ls hl => ?_)
              refine lv_iinc (v := (nI b) + 1) (lv' := [(5, .int ((nI b) + 1)), (4, .int (x + 1)), (3, .int (mHs (mDs r.2.2.2.1 r.2.2.2.2.1 st r.2.2.2.2.2.2.2.2.2.1).2 r.2.2.2.2.1 pl)), (0, .ref (ad o)), (1, .int st), (2, .int pl)]) hx hb dX7_distinctOffers_62 hl (k := 1) rfl rfl (by decide) rfl (fun ls hl => ?_)
              rw [show (nI b) + 1 = nI (b+1) from (nI_succ b).symm] at hl
              refine lv_goto (tgt := 13) hx hb dX7_distinctOffers_65 (by decide) ?_
              exact ih (b+1) (x + 1) (by have := (lt600 hqb h18_1); omega) (by rw [← hR1]; simp only [mDoL, h18_1, h23_2, h35_3, eq_true h51_4, eq_false hv.1, ↓reduceIte]) (lt600 hqb h18_1) _ _ ls hP hD hS (lv_sub hl [1, 0, 2, 3, 4, 5] rfl)
  exact loop1 (600 - 0 + 1) 0 0 (Nat.lt_succ_self _) rfl (Nat.zero_le _) _ _ ls hP hD hS (lv_sub hl [1, 0, 2, 3, 4, 5] rfl)

set_option maxHeartbeats 4000000 in
set_option maxRecDepth 100000 in
theorem km_X7_distinctOffers (l : Launch) (G : GT) (ad : Nat → Nat) (o : Nat) (r : MoT) (st pl : Int32) (h0 : okA st 0 2) (h1 : ¬ okA pl 0 ((mDn r.2.2.2.1 r.2.2.2.2.1 r.2.1 st r.2.2.2.2.2.2.2.2.2.1) - 1)) : Wr l yX7_distinctOffers wsX7_distinctOffers { frames := 4, cells := 0, slots := 0, locals := 93 } G (wMo G ad o r) (wMo G ad o (2, r.2.1, r.2.2.1, r.2.2.2.1, r.2.2.2.2.1, r.2.2.2.2.2.1, r.2.2.2.2.2.2.1, r.2.2.2.2.2.2.2.1, r.2.2.2.2.2.2.2.2.1, (mDs r.2.2.2.1 r.2.2.2.2.1 st r.2.2.2.2.2.2.2.2.2.1).2, r.2.2.2.2.2.2.2.2.2.2.1, r.2.2.2.2.2.2.2.2.2.2.2.1, r.2.2.2.2.2.2.2.2.2.2.2.2)) [.ref (ad o), .int st, .int pl] (some (.int 0)) := by
  intro sz
  refine Met.ofW (cc := cX7_distinctOffers) (maxL := 6) (ret := (some .int)) (by decide) rfl ?_
  intro p e s m args below meth c s₁ B hml hv
  obtain ⟨rfl, hsz, hP, hY, hD0⟩ := hv
  subst hsz
  have hD := hD0.self (sz := s.heap.size)
  generalize hAe : va_A (wMo G ad o r) s.heap.size = A at hD ⊢
  have hA : ∀ q : Nat, s.heap.size ≤ q → A q := fun q h => by rw [← hAe]; exact Or.inr h
  have hS : va_S A s.heap s.heap [] := va_S.rf
  have hx := B.exec
  have hb := B.bytes
  have hr := B.returns
  have hts := atoms_spec (ws := wsX7_distinctOffers) B.pre
  have hown : s.vm.findClass RX7 = some m.cls := findClass_of_methodNamed B.named
  have hlk := B.notSynchronized
  have CF : CallFix p m c cX7_distinctOffers 6 s _ wsX7_distinctOffers RX7 := ⟨hx, hb, hml, hown, hts⟩
  have hl := lv_entry ([.ref (ad o), .int st, .int pl]) (n := 6) (Nat.le_of_ble_eq_true rfl)
  rw [lg_entry_eq]
  generalize (lg_sl ([.ref (ad o), .int st, .int pl]) ++ List.replicate (6 - (lg_sl ([.ref (ad o), .int st, .int pl])).length) Slot.unset).toArray = ls at hl ⊢
  have hl : lv_has ls 6 [(0, .ref (ad o)), (1, .int st), (2, .int pl)] := hl
  refine lv_aload_n hx hb dX7_distinctOffers_0 rfl (lv_at hl 0 rfl) ?_
  refine lv_iload_n hx hb dX7_distinctOffers_1 rfl (lv_at hl 1 rfl) ?_
  refine lv_iload_n hx hb dX7_distinctOffers_2 rfl (lv_at hl 2 rfl) ?_
  refine wrV [] (wMo G ad o r) [] (wMo G ad o (2, r.2.1, r.2.2.1, r.2.2.2.1, r.2.2.2.2.1, r.2.2.2.2.2.1, r.2.2.2.2.2.2.1, r.2.2.2.2.2.2.2.1, r.2.2.2.2.2.2.2.2.1, (mDs r.2.2.2.1 r.2.2.2.2.1 st r.2.2.2.2.2.2.2.2.2.1).2, r.2.2.2.2.2.2.2.2.2.2.1, r.2.2.2.2.2.2.2.2.2.2.2.1, r.2.2.2.2.2.2.2.2.2.2.2.2)) (As := [.int st, .int pl]) (rest := []) CF (km_X7_distinctAt l G ad o r st pl h0 h1) (cwV 2 hts gX7_distinctOffers_X7_distinctAt rfl rfl rfl (by decide +kernel) ⟨Nat.le_of_ble_eq_true rfl, Nat.le_of_ble_eq_true rfl⟩) hP hD hS hA hY rfl rfl (fst_Mo _ _ _ _ _) rfl hl.1 rfl (lv_room (Nat.le_of_ble_eq_true rfl)) dX7_distinctOffers_3 ⟨Nat.zero_le _, Nat.zero_le _⟩ (fun H locs hP hD hS => ?_)
  have hP : va_P G.1 vwCl (wMo G ad o (2, r.2.1, r.2.2.1, r.2.2.2.1, r.2.2.2.2.1, r.2.2.2.2.2.1, r.2.2.2.2.2.2.1, r.2.2.2.2.2.2.2.1, r.2.2.2.2.2.2.2.2.1, (mDs r.2.2.2.1 r.2.2.2.2.1 st r.2.2.2.2.2.2.2.2.2.1).2, r.2.2.2.2.2.2.2.2.2.2.1, r.2.2.2.2.2.2.2.2.2.2.2.1, r.2.2.2.2.2.2.2.2.2.2.2.2)) H := hP
  have hD : va_D A (wMo G ad o (2, r.2.1, r.2.2.1, r.2.2.2.1, r.2.2.2.2.1, r.2.2.2.2.2.1, r.2.2.2.2.2.2.1, r.2.2.2.2.2.2.2.1, r.2.2.2.2.2.2.2.2.1, (mDs r.2.2.2.1 r.2.2.2.2.1 st r.2.2.2.2.2.2.2.2.2.1).2, r.2.2.2.2.2.2.2.2.2.2.1, r.2.2.2.2.2.2.2.2.2.2.2.1, r.2.2.2.2.2.2.2.2.2.2.2.2)) := hD
  refine lv_istore_n (lv' := [(3, .int (-1)), (0, .ref (ad o)), (1, .int st), (2, .int pl)]) hx hb dX7_distinctOffers_6 rfl hl (by decide) rfl (fun ls hl => ?_)
  refine lv_iconst (v := 0) hx hb dX7_distinctOffers_7 (by decide) ?_
  refine lv_istore (lv' := [(4, .int 0), (3, .int (-1)), (0, .ref (ad o)), (1, .int st), (2, .int pl)]) hx hb dX7_distinctOffers_8 hl (by decide) rfl (fun ls hl => ?_)
  refine lv_iconst (v := 0) hx hb dX7_distinctOffers_10 (by decide) ?_
  refine lv_istore (lv' := [(5, .int 0), (4, .int 0), (3, .int (-1)), (0, .ref (ad o)), (1, .int st), (2, .int pl)]) hx hb dX7_distinctOffers_11 hl (by decide) rfl (fun ls hl => ?_)
  refine lv_iload hx hb dX7_distinctOffers_13 (lv_at hl 0 rfl) ?_
  refine lv_sipush (v := 600) hx hb dX7_distinctOffers_15 (by decide) ?_
  refine lv_icmp_ge (tgt := 68) hx hb dX7_distinctOffers_18 (by decide) (fun h18_1 => ?_) (fun h18_1 => ?_)
  · exact absurd h18_1 (by decide)
  · refine lv_iload_n hx hb dX7_distinctOffers_21 rfl (lv_at hl 2 rfl) ?_
    refine lv_iconst (v := -1) hx hb dX7_distinctOffers_22 (by decide) ?_
    refine lv_icmp_eq (tgt := 68) hx hb dX7_distinctOffers_23 (by decide) (fun h23_2 => ?_) (fun h23_2 => ?_)
    · refine lv_iload hx hb dX7_distinctOffers_68 (lv_at hl 1 rfl) ?_
      exact wr_iret hx hb hr hlk hS hP (by first | with_reducible rfl | (simp only [sld_eq, h18_1, eq_true h23_2, ↓reduceIte]; done)) (by first | with_reducible rfl | (simp only [sld_eq, h18_1, eq_true h23_2, ↓reduceIte]; done)) dX7_distinctOffers_70
    · exact absurd rfl h23_2

set_option maxHeartbeats 4000000 in
set_option maxRecDepth 100000 in
theorem kn_X7_distinctOffers (l : Launch) (G : GT) (ad : Nat → Nat) (o : Nat) (r : MoT) (st pl : Int32) (hk : ¬ okA st 0 2) : Wr l yX7_distinctOffers wsX7_distinctOffers { frames := 4, cells := 0, slots := 0, locals := 93 } G (wMo G ad o r) (wMo G ad o (1, r.2)) [.ref (ad o), .int st, .int pl] (some (.int 0)) := by
  intro sz
  refine Met.ofW (cc := cX7_distinctOffers) (maxL := 6) (ret := (some .int)) (by decide) rfl ?_
  intro p e s m args below meth c s₁ B hml hv
  obtain ⟨rfl, hsz, hP, hY, hD0⟩ := hv
  subst hsz
  have hD := hD0.self (sz := s.heap.size)
  generalize hAe : va_A (wMo G ad o r) s.heap.size = A at hD ⊢
  have hA : ∀ q : Nat, s.heap.size ≤ q → A q := fun q h => by rw [← hAe]; exact Or.inr h
  have hS : va_S A s.heap s.heap [] := va_S.rf
  have hx := B.exec
  have hb := B.bytes
  have hr := B.returns
  have hts := atoms_spec (ws := wsX7_distinctOffers) B.pre
  have hown : s.vm.findClass RX7 = some m.cls := findClass_of_methodNamed B.named
  have hlk := B.notSynchronized
  have CF : CallFix p m c cX7_distinctOffers 6 s _ wsX7_distinctOffers RX7 := ⟨hx, hb, hml, hown, hts⟩
  have hl := lv_entry ([.ref (ad o), .int st, .int pl]) (n := 6) (Nat.le_of_ble_eq_true rfl)
  rw [lg_entry_eq]
  generalize (lg_sl ([.ref (ad o), .int st, .int pl]) ++ List.replicate (6 - (lg_sl ([.ref (ad o), .int st, .int pl])).length) Slot.unset).toArray = ls at hl ⊢
  have hl : lv_has ls 6 [(0, .ref (ad o)), (1, .int st), (2, .int pl)] := hl
  refine lv_aload_n hx hb dX7_distinctOffers_0 rfl (lv_at hl 0 rfl) ?_
  refine lv_iload_n hx hb dX7_distinctOffers_1 rfl (lv_at hl 1 rfl) ?_
  refine lv_iload_n hx hb dX7_distinctOffers_2 rfl (lv_at hl 2 rfl) ?_
  refine wrV [] (wMo G ad o r) [] (wMo G ad o (1, r.2)) (As := [.int st, .int pl]) (rest := []) CF (kn_X7_distinctAt l G ad o r st pl hk) (cwV 2 hts gX7_distinctOffers_X7_distinctAt rfl rfl rfl (by decide +kernel) ⟨Nat.le_of_ble_eq_true rfl, Nat.le_of_ble_eq_true rfl⟩) hP hD hS hA hY rfl rfl (fst_Mo _ _ _ _ _) rfl hl.1 rfl (lv_room (Nat.le_of_ble_eq_true rfl)) dX7_distinctOffers_3 ⟨Nat.zero_le _, Nat.zero_le _⟩ (fun H locs hP hD hS => ?_)
  have hP : va_P G.1 vwCl (wMo G ad o (1, r.2.1, r.2.2.1, r.2.2.2.1, r.2.2.2.2.1, r.2.2.2.2.2.1, r.2.2.2.2.2.2.1, r.2.2.2.2.2.2.2.1, r.2.2.2.2.2.2.2.2.1, r.2.2.2.2.2.2.2.2.2.1, r.2.2.2.2.2.2.2.2.2.2.1, r.2.2.2.2.2.2.2.2.2.2.2.1, r.2.2.2.2.2.2.2.2.2.2.2.2)) H := hP
  have hD : va_D A (wMo G ad o (1, r.2.1, r.2.2.1, r.2.2.2.1, r.2.2.2.2.1, r.2.2.2.2.2.1, r.2.2.2.2.2.2.1, r.2.2.2.2.2.2.2.1, r.2.2.2.2.2.2.2.2.1, r.2.2.2.2.2.2.2.2.2.1, r.2.2.2.2.2.2.2.2.2.2.1, r.2.2.2.2.2.2.2.2.2.2.2.1, r.2.2.2.2.2.2.2.2.2.2.2.2)) := hD
  refine lv_istore_n (lv' := [(3, .int (-1)), (0, .ref (ad o)), (1, .int st), (2, .int pl)]) hx hb dX7_distinctOffers_6 rfl hl (by decide) rfl (fun ls hl => ?_)
  refine lv_iconst (v := 0) hx hb dX7_distinctOffers_7 (by decide) ?_
  refine lv_istore (lv' := [(4, .int 0), (3, .int (-1)), (0, .ref (ad o)), (1, .int st), (2, .int pl)]) hx hb dX7_distinctOffers_8 hl (by decide) rfl (fun ls hl => ?_)
  refine lv_iconst (v := 0) hx hb dX7_distinctOffers_10 (by decide) ?_
  refine lv_istore (lv' := [(5, .int 0), (4, .int 0), (3, .int (-1)), (0, .ref (ad o)), (1, .int st), (2, .int pl)]) hx hb dX7_distinctOffers_11 hl (by decide) rfl (fun ls hl => ?_)
  refine lv_iload hx hb dX7_distinctOffers_13 (lv_at hl 0 rfl) ?_
  refine lv_sipush (v := 600) hx hb dX7_distinctOffers_15 (by decide) ?_
  refine lv_icmp_ge (tgt := 68) hx hb dX7_distinctOffers_18 (by decide) (fun h18_1 => ?_) (fun h18_1 => ?_)
  · exact absurd h18_1 (by decide)
  · refine lv_iload_n hx hb dX7_distinctOffers_21 rfl (lv_at hl 2 rfl) ?_
    refine lv_iconst (v := -1) hx hb dX7_distinctOffers_22 (by decide) ?_
    refine lv_icmp_eq (tgt := 68) hx hb dX7_distinctOffers_23 (by decide) (fun h23_2 => ?_) (fun h23_2 => ?_)
    · refine lv_iload hx hb dX7_distinctOffers_68 (lv_at hl 1 rfl) ?_
      exact wr_iret hx hb hr hlk hS hP (by first | with_reducible rfl | (simp only [sld_eq, h18_1, eq_true h23_2, ↓reduceIte]; done)) (by first | with_reducible rfl | (simp only [sld_eq, h18_1, eq_true h23_2, ↓reduceIte]; done)) dX7_distinctOffers_70
    · exact absurd rfl h23_2

set_option maxHeartbeats 4000000 in
set_option maxRecDepth 100000 in
theorem k_X7_distinctEstimate (l : Launch) (G : GT) (ad : Nat → Nat) (o : Nat) (r : MoT) (st : Int32) (h0 : okA st 0 2) (hd : r.2.1 ≤ (mDn r.2.2.2.1 r.2.2.2.2.1 r.2.1 st r.2.2.2.2.2.2.2.2.2.1) → vp_in (mHs (mDs r.2.2.2.1 r.2.2.2.2.1 st r.2.2.2.2.2.2.2.2.2.1).2 r.2.2.2.2.1 (r.2.1 - 1)) 600 ∧ ¬ hash_ (r.2.2.2.2.1 (mHs (mDs r.2.2.2.1 r.2.2.2.2.1 st r.2.2.2.2.2.2.2.2.2.1).2 r.2.2.2.2.1 (r.2.1 - 1)).toNatClampNeg) = 0) : Wr l yX7_distinctEstimate wsX7_distinctEstimate { frames := 3, cells := 0, slots := 0, locals := 69 } G (wMo G ad o r) (wMo G ad o (0, r.2.1, r.2.2.1, r.2.2.2.1, r.2.2.2.2.1, r.2.2.2.2.2.1, r.2.2.2.2.2.2.1, r.2.2.2.2.2.2.2.1, r.2.2.2.2.2.2.2.2.1, (mDs r.2.2.2.1 r.2.2.2.2.1 st r.2.2.2.2.2.2.2.2.2.1).2, r.2.2.2.2.2.2.2.2.2.2.1, r.2.2.2.2.2.2.2.2.2.2.2.1, r.2.2.2.2.2.2.2.2.2.2.2.2)) [.ref (ad o), .int st] (some (.long (if r.2.1 ≤ (mDn r.2.2.2.1 r.2.2.2.2.1 r.2.1 st r.2.2.2.2.2.2.2.2.2.1) then (r.2.1.toInt64 - 1) * 4294967296 / hash_ (r.2.2.2.2.1 (mHs (mDs r.2.2.2.1 r.2.2.2.2.1 st r.2.2.2.2.2.2.2.2.2.1).2 r.2.2.2.2.1 (r.2.1 - 1)).toNatClampNeg) else (mDn r.2.2.2.1 r.2.2.2.2.1 r.2.1 st r.2.2.2.2.2.2.2.2.2.1).toInt64))) := by
  intro sz
  refine Met.ofW (cc := cX7_distinctEstimate) (maxL := 3) (ret := (some .long)) (by decide) rfl ?_
  intro p e s m args below meth c s₁ B hml hv
  obtain ⟨rfl, hsz, hP, hY, hD0⟩ := hv
  subst hsz
  have hD := hD0.self (sz := s.heap.size)
  generalize hAe : va_A (wMo G ad o r) s.heap.size = A at hD ⊢
  have hA : ∀ q : Nat, s.heap.size ≤ q → A q := fun q h => by rw [← hAe]; exact Or.inr h
  have hS : va_S A s.heap s.heap [] := va_S.rf
  have hx := B.exec
  have hb := B.bytes
  have hr := B.returns
  have hts := atoms_spec (ws := wsX7_distinctEstimate) B.pre
  have hown : s.vm.findClass RX7 = some m.cls := findClass_of_methodNamed B.named
  have hlk := B.notSynchronized
  have CF : CallFix p m c cX7_distinctEstimate 3 s _ wsX7_distinctEstimate RX7 := ⟨hx, hb, hml, hown, hts⟩
  have hiX7 : ∀ w ∈ wsX70, w ∈ wsX7_distinctEstimate := fun w h => (List.mem_cons_of_mem _ (List.mem_append_right _ h))
  have kf7 := hts (.fieldLink RX7 7 "ReservoirReedModel" "size" "I") (List.mem_cons_of_mem _ (List.mem_append_left _ (List.mem_append_left _ (List.mem_of_getElem? (i := 0) rfl))))
  have kc96 := hts (.constantLong RX7 96 (4294967296)) (List.mem_cons_of_mem _ (List.mem_append_left _ (List.mem_append_left _ (List.mem_of_getElem? (i := 1) rfl))))
  have kf20 := hts (.fieldLink RX7 20 "ReservoirReedModel" "items" "[I") (List.mem_cons_of_mem _ (List.mem_append_left _ (List.mem_append_left _ (List.mem_of_getElem? (i := 2) rfl))))
  have hl := lv_entry ([.ref (ad o), .int st]) (n := 3) (Nat.le_of_ble_eq_true rfl)
  rw [lg_entry_eq]
  generalize (lg_sl ([.ref (ad o), .int st]) ++ List.replicate (3 - (lg_sl ([.ref (ad o), .int st])).length) Slot.unset).toArray = ls at hl ⊢
  have hl : lv_has ls 3 [(0, .ref (ad o)), (1, .int st)] := hl
  refine lv_aload_n hx hb dX7_distinctEstimate_0 rfl (lv_at hl 0 rfl) ?_
  refine lv_iload_n hx hb dX7_distinctEstimate_1 rfl (lv_at hl 1 rfl) ?_
  refine lv_iconst (v := 2) hx hb dX7_distinctEstimate_2 (by decide) ?_
  refine wrV [] (wMo G ad o r) [] (wMo G ad o (0, r.2)) (As := [.int st, .int 2]) (rest := []) CF (k_X7_noStream l G ad o r st 2 h0) (cwV 2 hts gX7_distinctEstimate_X7_noStream rfl rfl rfl (by decide +kernel) ⟨Nat.le_of_ble_eq_true rfl, Nat.le_of_ble_eq_true rfl⟩) hP hD hS hA hY rfl rfl (fst_Mo _ _ _ _ _) rfl hl.1 rfl (lv_room (Nat.le_of_ble_eq_true rfl)) dX7_distinctEstimate_3 ⟨Nat.zero_le _, Nat.zero_le _⟩ (fun H locs hP hD hS => ?_)
  have hP : va_P G.1 vwCl (wMo G ad o (0, r.2.1, r.2.2.1, r.2.2.2.1, r.2.2.2.2.1, r.2.2.2.2.2.1, r.2.2.2.2.2.2.1, r.2.2.2.2.2.2.2.1, r.2.2.2.2.2.2.2.2.1, r.2.2.2.2.2.2.2.2.2.1, r.2.2.2.2.2.2.2.2.2.2.1, r.2.2.2.2.2.2.2.2.2.2.2.1, r.2.2.2.2.2.2.2.2.2.2.2.2)) H := hP
  have hD : va_D A (wMo G ad o (0, r.2.1, r.2.2.1, r.2.2.2.1, r.2.2.2.2.1, r.2.2.2.2.2.1, r.2.2.2.2.2.2.1, r.2.2.2.2.2.2.2.1, r.2.2.2.2.2.2.2.2.1, r.2.2.2.2.2.2.2.2.2.1, r.2.2.2.2.2.2.2.2.2.2.1, r.2.2.2.2.2.2.2.2.2.2.2.1, r.2.2.2.2.2.2.2.2.2.2.2.2)) := hD
  refine lv_if_eq (tgt := 11) hx hb dX7_distinctEstimate_6 (by decide) (fun h6_1 => ?_) (fun h6_1 => ?_)
  · refine lv_aload_n hx hb dX7_distinctEstimate_11 rfl (lv_at hl 0 rfl) ?_
    refine lv_iload_n hx hb dX7_distinctEstimate_12 rfl (lv_at hl 1 rfl) ?_
    refine wrV [] (wMo G ad o (0, r.2.1, r.2.2.1, r.2.2.2.1, r.2.2.2.2.1, r.2.2.2.2.2.1, r.2.2.2.2.2.2.1, r.2.2.2.2.2.2.2.1, r.2.2.2.2.2.2.2.2.1, r.2.2.2.2.2.2.2.2.2.1, r.2.2.2.2.2.2.2.2.2.2.1, r.2.2.2.2.2.2.2.2.2.2.2.1, r.2.2.2.2.2.2.2.2.2.2.2.2)) [] (wMo G ad o ((0, r.2.1, r.2.2.1, r.2.2.2.1, r.2.2.2.2.1, r.2.2.2.2.2.1, r.2.2.2.2.2.2.1, r.2.2.2.2.2.2.2.1, r.2.2.2.2.2.2.2.2.1, r.2.2.2.2.2.2.2.2.2.1, r.2.2.2.2.2.2.2.2.2.2.1, r.2.2.2.2.2.2.2.2.2.2.2.1, r.2.2.2.2.2.2.2.2.2.2.2.2).1, (0, r.2.1, r.2.2.1, r.2.2.2.1, r.2.2.2.2.1, r.2.2.2.2.2.1, r.2.2.2.2.2.2.1, r.2.2.2.2.2.2.2.1, r.2.2.2.2.2.2.2.2.1, r.2.2.2.2.2.2.2.2.2.1, r.2.2.2.2.2.2.2.2.2.2.1, r.2.2.2.2.2.2.2.2.2.2.2.1, r.2.2.2.2.2.2.2.2.2.2.2.2).2.1, (0, r.2.1, r.2.2.1, r.2.2.2.1, r.2.2.2.2.1, r.2.2.2.2.2.1, r.2.2.2.2.2.2.1, r.2.2.2.2.2.2.2.1, r.2.2.2.2.2.2.2.2.1, r.2.2.2.2.2.2.2.2.2.1, r.2.2.2.2.2.2.2.2.2.2.1, r.2.2.2.2.2.2.2.2.2.2.2.1, r.2.2.2.2.2.2.2.2.2.2.2.2).2.2.1, (0, r.2.1, r.2.2.1, r.2.2.2.1, r.2.2.2.2.1, r.2.2.2.2.2.1, r.2.2.2.2.2.2.1, r.2.2.2.2.2.2.2.1, r.2.2.2.2.2.2.2.2.1, r.2.2.2.2.2.2.2.2.2.1, r.2.2.2.2.2.2.2.2.2.2.1, r.2.2.2.2.2.2.2.2.2.2.2.1, r.2.2.2.2.2.2.2.2.2.2.2.2).2.2.2.1, (0, r.2.1, r.2.2.1, r.2.2.2.1, r.2.2.2.2.1, r.2.2.2.2.2.1, r.2.2.2.2.2.2.1, r.2.2.2.2.2.2.2.1, r.2.2.2.2.2.2.2.2.1, r.2.2.2.2.2.2.2.2.2.1, r.2.2.2.2.2.2.2.2.2.2.1, r.2.2.2.2.2.2.2.2.2.2.2.1, r.2.2.2.2.2.2.2.2.2.2.2.2).2.2.2.2.1, (0, r.2.1, r.2.2.1, r.2.2.2.1, r.2.2.2.2.1, r.2.2.2.2.2.1, r.2.2.2.2.2.2.1, r.2.2.2.2.2.2.2.1, r.2.2.2.2.2.2.2.2.1, r.2.2.2.2.2.2.2.2.2.1, r.2.2.2.2.2.2.2.2.2.2.1, r.2.2.2.2.2.2.2.2.2.2.2.1, r.2.2.2.2.2.2.2.2.2.2.2.2).2.2.2.2.2.1, (0, r.2.1, r.2.2.1, r.2.2.2.1, r.2.2.2.2.1, r.2.2.2.2.2.1, r.2.2.2.2.2.2.1, r.2.2.2.2.2.2.2.1, r.2.2.2.2.2.2.2.2.1, r.2.2.2.2.2.2.2.2.2.1, r.2.2.2.2.2.2.2.2.2.2.1, r.2.2.2.2.2.2.2.2.2.2.2.1, r.2.2.2.2.2.2.2.2.2.2.2.2).2.2.2.2.2.2.1, (0, r.2.1, r.2.2.1, r.2.2.2.1, r.2.2.2.2.1, r.2.2.2.2.2.1, r.2.2.2.2.2.2.1, r.2.2.2.2.2.2.2.1, r.2.2.2.2.2.2.2.2.1, r.2.2.2.2.2.2.2.2.2.1, r.2.2.2.2.2.2.2.2.2.2.1, r.2.2.2.2.2.2.2.2.2.2.2.1, r.2.2.2.2.2.2.2.2.2.2.2.2).2.2.2.2.2.2.2.1, (0, r.2.1, r.2.2.1, r.2.2.2.1, r.2.2.2.2.1, r.2.2.2.2.2.1, r.2.2.2.2.2.2.1, r.2.2.2.2.2.2.2.1, r.2.2.2.2.2.2.2.2.1, r.2.2.2.2.2.2.2.2.2.1, r.2.2.2.2.2.2.2.2.2.2.1, r.2.2.2.2.2.2.2.2.2.2.2.1, r.2.2.2.2.2.2.2.2.2.2.2.2).2.2.2.2.2.2.2.2.1, (mDs (0, r.2.1, r.2.2.1, r.2.2.2.1, r.2.2.2.2.1, r.2.2.2.2.2.1, r.2.2.2.2.2.2.1, r.2.2.2.2.2.2.2.1, r.2.2.2.2.2.2.2.2.1, r.2.2.2.2.2.2.2.2.2.1, r.2.2.2.2.2.2.2.2.2.2.1, r.2.2.2.2.2.2.2.2.2.2.2.1, r.2.2.2.2.2.2.2.2.2.2.2.2).2.2.2.1 (0, r.2.1, r.2.2.1, r.2.2.2.1, r.2.2.2.2.1, r.2.2.2.2.2.1, r.2.2.2.2.2.2.1, r.2.2.2.2.2.2.2.1, r.2.2.2.2.2.2.2.2.1, r.2.2.2.2.2.2.2.2.2.1, r.2.2.2.2.2.2.2.2.2.2.1, r.2.2.2.2.2.2.2.2.2.2.2.1, r.2.2.2.2.2.2.2.2.2.2.2.2).2.2.2.2.1 st (0, r.2.1, r.2.2.1, r.2.2.2.1, r.2.2.2.2.1, r.2.2.2.2.2.1, r.2.2.2.2.2.2.1, r.2.2.2.2.2.2.2.1, r.2.2.2.2.2.2.2.2.1, r.2.2.2.2.2.2.2.2.2.1, r.2.2.2.2.2.2.2.2.2.2.1, r.2.2.2.2.2.2.2.2.2.2.2.1, r.2.2.2.2.2.2.2.2.2.2.2.2).2.2.2.2.2.2.2.2.2.1).2, (0, r.2.1, r.2.2.1, r.2.2.2.1, r.2.2.2.2.1, r.2.2.2.2.2.1, r.2.2.2.2.2.2.1, r.2.2.2.2.2.2.2.1, r.2.2.2.2.2.2.2.2.1, r.2.2.2.2.2.2.2.2.2.1, r.2.2.2.2.2.2.2.2.2.2.1, r.2.2.2.2.2.2.2.2.2.2.2.1, r.2.2.2.2.2.2.2.2.2.2.2.2).2.2.2.2.2.2.2.2.2.2.1, (0, r.2.1, r.2.2.1, r.2.2.2.1, r.2.2.2.2.1, r.2.2.2.2.2.1, r.2.2.2.2.2.2.1, r.2.2.2.2.2.2.2.1, r.2.2.2.2.2.2.2.2.1, r.2.2.2.2.2.2.2.2.2.1, r.2.2.2.2.2.2.2.2.2.2.1, r.2.2.2.2.2.2.2.2.2.2.2.1, r.2.2.2.2.2.2.2.2.2.2.2.2).2.2.2.2.2.2.2.2.2.2.2.1, (0, r.2.1, r.2.2.1, r.2.2.2.1, r.2.2.2.2.1, r.2.2.2.2.2.1, r.2.2.2.2.2.2.1, r.2.2.2.2.2.2.2.1, r.2.2.2.2.2.2.2.2.1, r.2.2.2.2.2.2.2.2.2.1, r.2.2.2.2.2.2.2.2.2.2.1, r.2.2.2.2.2.2.2.2.2.2.2.1, r.2.2.2.2.2.2.2.2.2.2.2.2).2.2.2.2.2.2.2.2.2.2.2.2)) (As := [.int st]) (rest := []) CF (k_X7_distinctIn l G ad o (0, r.2.1, r.2.2.1, r.2.2.2.1, r.2.2.2.2.1, r.2.2.2.2.2.1, r.2.2.2.2.2.2.1, r.2.2.2.2.2.2.2.1, r.2.2.2.2.2.2.2.2.1, r.2.2.2.2.2.2.2.2.2.1, r.2.2.2.2.2.2.2.2.2.2.1, r.2.2.2.2.2.2.2.2.2.2.2.1, r.2.2.2.2.2.2.2.2.2.2.2.2) st) (cwV 1 hts gX7_distinctEstimate_X7_distinctIn rfl rfl rfl (by decide +kernel) ⟨Nat.le_of_ble_eq_true rfl, Nat.le_of_ble_eq_true rfl⟩) hP hD hS hA hY rfl rfl (fst_Mo _ _ _ _ _) rfl hl.1 rfl (lv_room (Nat.le_of_ble_eq_true rfl)) dX7_distinctEstimate_13 ⟨Nat.zero_le _, Nat.zero_le _⟩ (fun H locs hP hD hS => ?_)
    have hP : va_P G.1 vwCl (wMo G ad o ((0, r.2.1, r.2.2.1, r.2.2.2.1, r.2.2.2.2.1, r.2.2.2.2.2.1, r.2.2.2.2.2.2.1, r.2.2.2.2.2.2.2.1, r.2.2.2.2.2.2.2.2.1, r.2.2.2.2.2.2.2.2.2.1, r.2.2.2.2.2.2.2.2.2.2.1, r.2.2.2.2.2.2.2.2.2.2.2.1, r.2.2.2.2.2.2.2.2.2.2.2.2).1, (0, r.2.1, r.2.2.1, r.2.2.2.1, r.2.2.2.2.1, r.2.2.2.2.2.1, r.2.2.2.2.2.2.1, r.2.2.2.2.2.2.2.1, r.2.2.2.2.2.2.2.2.1, r.2.2.2.2.2.2.2.2.2.1, r.2.2.2.2.2.2.2.2.2.2.1, r.2.2.2.2.2.2.2.2.2.2.2.1, r.2.2.2.2.2.2.2.2.2.2.2.2).2.1, (0, r.2.1, r.2.2.1, r.2.2.2.1, r.2.2.2.2.1, r.2.2.2.2.2.1, r.2.2.2.2.2.2.1, r.2.2.2.2.2.2.2.1, r.2.2.2.2.2.2.2.2.1, r.2.2.2.2.2.2.2.2.2.1, r.2.2.2.2.2.2.2.2.2.2.1, r.2.2.2.2.2.2.2.2.2.2.2.1, r.2.2.2.2.2.2.2.2.2.2.2.2).2.2.1, (0, r.2.1, r.2.2.1, r.2.2.2.1, r.2.2.2.2.1, r.2.2.2.2.2.1, r.2.2.2.2.2.2.1, r.2.2.2.2.2.2.2.1, r.2.2.2.2.2.2.2.2.1, r.2.2.2.2.2.2.2.2.2.1, r.2.2.2.2.2.2.2.2.2.2.1, r.2.2.2.2.2.2.2.2.2.2.2.1, r.2.2.2.2.2.2.2.2.2.2.2.2).2.2.2.1, (0, r.2.1, r.2.2.1, r.2.2.2.1, r.2.2.2.2.1, r.2.2.2.2.2.1, r.2.2.2.2.2.2.1, r.2.2.2.2.2.2.2.1, r.2.2.2.2.2.2.2.2.1, r.2.2.2.2.2.2.2.2.2.1, r.2.2.2.2.2.2.2.2.2.2.1, r.2.2.2.2.2.2.2.2.2.2.2.1, r.2.2.2.2.2.2.2.2.2.2.2.2).2.2.2.2.1, (0, r.2.1, r.2.2.1, r.2.2.2.1, r.2.2.2.2.1, r.2.2.2.2.2.1, r.2.2.2.2.2.2.1, r.2.2.2.2.2.2.2.1, r.2.2.2.2.2.2.2.2.1, r.2.2.2.2.2.2.2.2.2.1, r.2.2.2.2.2.2.2.2.2.2.1, r.2.2.2.2.2.2.2.2.2.2.2.1, r.2.2.2.2.2.2.2.2.2.2.2.2).2.2.2.2.2.1, (0, r.2.1, r.2.2.1, r.2.2.2.1, r.2.2.2.2.1, r.2.2.2.2.2.1, r.2.2.2.2.2.2.1, r.2.2.2.2.2.2.2.1, r.2.2.2.2.2.2.2.2.1, r.2.2.2.2.2.2.2.2.2.1, r.2.2.2.2.2.2.2.2.2.2.1, r.2.2.2.2.2.2.2.2.2.2.2.1, r.2.2.2.2.2.2.2.2.2.2.2.2).2.2.2.2.2.2.1, (0, r.2.1, r.2.2.1, r.2.2.2.1, r.2.2.2.2.1, r.2.2.2.2.2.1, r.2.2.2.2.2.2.1, r.2.2.2.2.2.2.2.1, r.2.2.2.2.2.2.2.2.1, r.2.2.2.2.2.2.2.2.2.1, r.2.2.2.2.2.2.2.2.2.2.1, r.2.2.2.2.2.2.2.2.2.2.2.1, r.2.2.2.2.2.2.2.2.2.2.2.2).2.2.2.2.2.2.2.1, (0, r.2.1, r.2.2.1, r.2.2.2.1, r.2.2.2.2.1, r.2.2.2.2.2.1, r.2.2.2.2.2.2.1, r.2.2.2.2.2.2.2.1, r.2.2.2.2.2.2.2.2.1, r.2.2.2.2.2.2.2.2.2.1, r.2.2.2.2.2.2.2.2.2.2.1, r.2.2.2.2.2.2.2.2.2.2.2.1, r.2.2.2.2.2.2.2.2.2.2.2.2).2.2.2.2.2.2.2.2.1, (mDs (0, r.2.1, r.2.2.1, r.2.2.2.1, r.2.2.2.2.1, r.2.2.2.2.2.1, r.2.2.2.2.2.2.1, r.2.2.2.2.2.2.2.1, r.2.2.2.2.2.2.2.2.1, r.2.2.2.2.2.2.2.2.2.1, r.2.2.2.2.2.2.2.2.2.2.1, r.2.2.2.2.2.2.2.2.2.2.2.1, r.2.2.2.2.2.2.2.2.2.2.2.2).2.2.2.1 (0, r.2.1, r.2.2.1, r.2.2.2.1, r.2.2.2.2.1, r.2.2.2.2.2.1, r.2.2.2.2.2.2.1, r.2.2.2.2.2.2.2.1, r.2.2.2.2.2.2.2.2.1, r.2.2.2.2.2.2.2.2.2.1, r.2.2.2.2.2.2.2.2.2.2.1, r.2.2.2.2.2.2.2.2.2.2.2.1, r.2.2.2.2.2.2.2.2.2.2.2.2).2.2.2.2.1 st (0, r.2.1, r.2.2.1, r.2.2.2.1, r.2.2.2.2.1, r.2.2.2.2.2.1, r.2.2.2.2.2.2.1, r.2.2.2.2.2.2.2.1, r.2.2.2.2.2.2.2.2.1, r.2.2.2.2.2.2.2.2.2.1, r.2.2.2.2.2.2.2.2.2.2.1, r.2.2.2.2.2.2.2.2.2.2.2.1, r.2.2.2.2.2.2.2.2.2.2.2.2).2.2.2.2.2.2.2.2.2.1).2, (0, r.2.1, r.2.2.1, r.2.2.2.1, r.2.2.2.2.1, r.2.2.2.2.2.1, r.2.2.2.2.2.2.1, r.2.2.2.2.2.2.2.1, r.2.2.2.2.2.2.2.2.1, r.2.2.2.2.2.2.2.2.2.1, r.2.2.2.2.2.2.2.2.2.2.1, r.2.2.2.2.2.2.2.2.2.2.2.1, r.2.2.2.2.2.2.2.2.2.2.2.2).2.2.2.2.2.2.2.2.2.2.1, (0, r.2.1, r.2.2.1, r.2.2.2.1, r.2.2.2.2.1, r.2.2.2.2.2.1, r.2.2.2.2.2.2.1, r.2.2.2.2.2.2.2.1, r.2.2.2.2.2.2.2.2.1, r.2.2.2.2.2.2.2.2.2.1, r.2.2.2.2.2.2.2.2.2.2.1, r.2.2.2.2.2.2.2.2.2.2.2.1, r.2.2.2.2.2.2.2.2.2.2.2.2).2.2.2.2.2.2.2.2.2.2.2.1, (0, r.2.1, r.2.2.1, r.2.2.2.1, r.2.2.2.2.1, r.2.2.2.2.2.1, r.2.2.2.2.2.2.1, r.2.2.2.2.2.2.2.1, r.2.2.2.2.2.2.2.2.1, r.2.2.2.2.2.2.2.2.2.1, r.2.2.2.2.2.2.2.2.2.2.1, r.2.2.2.2.2.2.2.2.2.2.2.1, r.2.2.2.2.2.2.2.2.2.2.2.2).2.2.2.2.2.2.2.2.2.2.2.2)) H := hP
    have hD : va_D A (wMo G ad o ((0, r.2.1, r.2.2.1, r.2.2.2.1, r.2.2.2.2.1, r.2.2.2.2.2.1, r.2.2.2.2.2.2.1, r.2.2.2.2.2.2.2.1, r.2.2.2.2.2.2.2.2.1, r.2.2.2.2.2.2.2.2.2.1, r.2.2.2.2.2.2.2.2.2.2.1, r.2.2.2.2.2.2.2.2.2.2.2.1, r.2.2.2.2.2.2.2.2.2.2.2.2).1, (0, r.2.1, r.2.2.1, r.2.2.2.1, r.2.2.2.2.1, r.2.2.2.2.2.1, r.2.2.2.2.2.2.1, r.2.2.2.2.2.2.2.1, r.2.2.2.2.2.2.2.2.1, r.2.2.2.2.2.2.2.2.2.1, r.2.2.2.2.2.2.2.2.2.2.1, r.2.2.2.2.2.2.2.2.2.2.2.1, r.2.2.2.2.2.2.2.2.2.2.2.2).2.1, (0, r.2.1, r.2.2.1, r.2.2.2.1, r.2.2.2.2.1, r.2.2.2.2.2.1, r.2.2.2.2.2.2.1, r.2.2.2.2.2.2.2.1, r.2.2.2.2.2.2.2.2.1, r.2.2.2.2.2.2.2.2.2.1, r.2.2.2.2.2.2.2.2.2.2.1, r.2.2.2.2.2.2.2.2.2.2.2.1, r.2.2.2.2.2.2.2.2.2.2.2.2).2.2.1, (0, r.2.1, r.2.2.1, r.2.2.2.1, r.2.2.2.2.1, r.2.2.2.2.2.1, r.2.2.2.2.2.2.1, r.2.2.2.2.2.2.2.1, r.2.2.2.2.2.2.2.2.1, r.2.2.2.2.2.2.2.2.2.1, r.2.2.2.2.2.2.2.2.2.2.1, r.2.2.2.2.2.2.2.2.2.2.2.1, r.2.2.2.2.2.2.2.2.2.2.2.2).2.2.2.1, (0, r.2.1, r.2.2.1, r.2.2.2.1, r.2.2.2.2.1, r.2.2.2.2.2.1, r.2.2.2.2.2.2.1, r.2.2.2.2.2.2.2.1, r.2.2.2.2.2.2.2.2.1, r.2.2.2.2.2.2.2.2.2.1, r.2.2.2.2.2.2.2.2.2.2.1, r.2.2.2.2.2.2.2.2.2.2.2.1, r.2.2.2.2.2.2.2.2.2.2.2.2).2.2.2.2.1, (0, r.2.1, r.2.2.1, r.2.2.2.1, r.2.2.2.2.1, r.2.2.2.2.2.1, r.2.2.2.2.2.2.1, r.2.2.2.2.2.2.2.1, r.2.2.2.2.2.2.2.2.1, r.2.2.2.2.2.2.2.2.2.1, r.2.2.2.2.2.2.2.2.2.2.1, r.2.2.2.2.2.2.2.2.2.2.2.1, r.2.2.2.2.2.2.2.2.2.2.2.2).2.2.2.2.2.1, (0, r.2.1, r.2.2.1, r.2.2.2.1, r.2.2.2.2.1, r.2.2.2.2.2.1, r.2.2.2.2.2.2.1, r.2.2.2.2.2.2.2.1, r.2.2.2.2.2.2.2.2.1, r.2.2.2.2.2.2.2.2.2.1, r.2.2.2.2.2.2.2.2.2.2.1, r.2.2.2.2.2.2.2.2.2.2.2.1, r.2.2.2.2.2.2.2.2.2.2.2.2).2.2.2.2.2.2.1, (0, r.2.1, r.2.2.1, r.2.2.2.1, r.2.2.2.2.1, r.2.2.2.2.2.1, r.2.2.2.2.2.2.1, r.2.2.2.2.2.2.2.1, r.2.2.2.2.2.2.2.2.1, r.2.2.2.2.2.2.2.2.2.1, r.2.2.2.2.2.2.2.2.2.2.1, r.2.2.2.2.2.2.2.2.2.2.2.1, r.2.2.2.2.2.2.2.2.2.2.2.2).2.2.2.2.2.2.2.1, (0, r.2.1, r.2.2.1, r.2.2.2.1, r.2.2.2.2.1, r.2.2.2.2.2.1, r.2.2.2.2.2.2.1, r.2.2.2.2.2.2.2.1, r.2.2.2.2.2.2.2.2.1, r.2.2.2.2.2.2.2.2.2.1, r.2.2.2.2.2.2.2.2.2.2.1, r.2.2.2.2.2.2.2.2.2.2.2.1, r.2.2.2.2.2.2.2.2.2.2.2.2).2.2.2.2.2.2.2.2.1, (mDs (0, r.2.1, r.2.2.1, r.2.2.2.1, r.2.2.2.2.1, r.2.2.2.2.2.1, r.2.2.2.2.2.2.1, r.2.2.2.2.2.2.2.1, r.2.2.2.2.2.2.2.2.1, r.2.2.2.2.2.2.2.2.2.1, r.2.2.2.2.2.2.2.2.2.2.1, r.2.2.2.2.2.2.2.2.2.2.2.1, r.2.2.2.2.2.2.2.2.2.2.2.2).2.2.2.1 (0, r.2.1, r.2.2.1, r.2.2.2.1, r.2.2.2.2.1, r.2.2.2.2.2.1, r.2.2.2.2.2.2.1, r.2.2.2.2.2.2.2.1, r.2.2.2.2.2.2.2.2.1, r.2.2.2.2.2.2.2.2.2.1, r.2.2.2.2.2.2.2.2.2.2.1, r.2.2.2.2.2.2.2.2.2.2.2.1, r.2.2.2.2.2.2.2.2.2.2.2.2).2.2.2.2.1 st (0, r.2.1, r.2.2.1, r.2.2.2.1, r.2.2.2.2.1, r.2.2.2.2.2.1, r.2.2.2.2.2.2.1, r.2.2.2.2.2.2.2.1, r.2.2.2.2.2.2.2.2.1, r.2.2.2.2.2.2.2.2.2.1, r.2.2.2.2.2.2.2.2.2.2.1, r.2.2.2.2.2.2.2.2.2.2.2.1, r.2.2.2.2.2.2.2.2.2.2.2.2).2.2.2.2.2.2.2.2.2.1).2, (0, r.2.1, r.2.2.1, r.2.2.2.1, r.2.2.2.2.1, r.2.2.2.2.2.1, r.2.2.2.2.2.2.1, r.2.2.2.2.2.2.2.1, r.2.2.2.2.2.2.2.2.1, r.2.2.2.2.2.2.2.2.2.1, r.2.2.2.2.2.2.2.2.2.2.1, r.2.2.2.2.2.2.2.2.2.2.2.1, r.2.2.2.2.2.2.2.2.2.2.2.2).2.2.2.2.2.2.2.2.2.2.1, (0, r.2.1, r.2.2.1, r.2.2.2.1, r.2.2.2.2.1, r.2.2.2.2.2.1, r.2.2.2.2.2.2.1, r.2.2.2.2.2.2.2.1, r.2.2.2.2.2.2.2.2.1, r.2.2.2.2.2.2.2.2.2.1, r.2.2.2.2.2.2.2.2.2.2.1, r.2.2.2.2.2.2.2.2.2.2.2.1, r.2.2.2.2.2.2.2.2.2.2.2.2).2.2.2.2.2.2.2.2.2.2.2.1, (0, r.2.1, r.2.2.1, r.2.2.2.1, r.2.2.2.2.1, r.2.2.2.2.2.1, r.2.2.2.2.2.2.1, r.2.2.2.2.2.2.2.1, r.2.2.2.2.2.2.2.2.1, r.2.2.2.2.2.2.2.2.2.1, r.2.2.2.2.2.2.2.2.2.2.1, r.2.2.2.2.2.2.2.2.2.2.2.1, r.2.2.2.2.2.2.2.2.2.2.2.2).2.2.2.2.2.2.2.2.2.2.2.2)) := hD
    refine lv_istore_n (lv' := [(2, .int (mDn (0, r.2.1, r.2.2.1, r.2.2.2.1, r.2.2.2.2.1, r.2.2.2.2.2.1, r.2.2.2.2.2.2.1, r.2.2.2.2.2.2.2.1, r.2.2.2.2.2.2.2.2.1, r.2.2.2.2.2.2.2.2.2.1, r.2.2.2.2.2.2.2.2.2.2.1, r.2.2.2.2.2.2.2.2.2.2.2.1, r.2.2.2.2.2.2.2.2.2.2.2.2).2.2.2.1 (0, r.2.1, r.2.2.1, r.2.2.2.1, r.2.2.2.2.1, r.2.2.2.2.2.1, r.2.2.2.2.2.2.1, r.2.2.2.2.2.2.2.1, r.2.2.2.2.2.2.2.2.1, r.2.2.2.2.2.2.2.2.2.1, r.2.2.2.2.2.2.2.2.2.2.1, r.2.2.2.2.2.2.2.2.2.2.2.1, r.2.2.2.2.2.2.2.2.2.2.2.2).2.2.2.2.1 (0, r.2.1, r.2.2.1, r.2.2.2.1, r.2.2.2.2.1, r.2.2.2.2.2.1, r.2.2.2.2.2.2.1, r.2.2.2.2.2.2.2.1, r.2.2.2.2.2.2.2.2.1, r.2.2.2.2.2.2.2.2.2.1, r.2.2.2.2.2.2.2.2.2.2.1, r.2.2.2.2.2.2.2.2.2.2.2.1, r.2.2.2.2.2.2.2.2.2.2.2.2).2.1 st (0, r.2.1, r.2.2.1, r.2.2.2.1, r.2.2.2.2.1, r.2.2.2.2.2.1, r.2.2.2.2.2.2.1, r.2.2.2.2.2.2.2.1, r.2.2.2.2.2.2.2.2.1, r.2.2.2.2.2.2.2.2.2.1, r.2.2.2.2.2.2.2.2.2.2.1, r.2.2.2.2.2.2.2.2.2.2.2.1, r.2.2.2.2.2.2.2.2.2.2.2.2).2.2.2.2.2.2.2.2.2.1)), (0, .ref (ad o)), (1, .int st)]) hx hb dX7_distinctEstimate_16 rfl hl (by decide) rfl (fun ls hl => ?_)
    refine lv_iload_n hx hb dX7_distinctEstimate_17 rfl (lv_at hl 0 rfl) ?_
    refine lv_aload_n hx hb dX7_distinctEstimate_18 rfl (lv_at hl 1 rfl) ?_
    refine va_get (D := G.1) (ci := 7) (v := .int ((0, r.2.1, r.2.2.1, r.2.2.2.1, r.2.2.2.2.1, r.2.2.2.2.2.1, r.2.2.2.2.2.2.1, r.2.2.2.2.2.2.2.1, r.2.2.2.2.2.2.2.2.1, r.2.2.2.2.2.2.2.2.2.1, r.2.2.2.2.2.2.2.2.2.2.1, r.2.2.2.2.2.2.2.2.2.2.2.1, r.2.2.2.2.2.2.2.2.2.2.2.2).2.1)) (C := RX7) (T := TX7) (N := 13) hx hb hts hiX7 hown hY.1 hP 0 rfl rfl 1 (by decide) kf7 (fun _ h9 => h9) rfl dX7_distinctEstimate_19 ?_
    refine lv_icmp_ge (tgt := 30) hx hb dX7_distinctEstimate_22 (by decide) (fun h22_2 => ?_) (fun h22_2 => ?_)
    · refine lv_aload_n hx hb dX7_distinctEstimate_30 rfl (lv_at hl 1 rfl) ?_
      refine va_get (D := G.1) (ci := 7) (v := .int ((0, r.2.1, r.2.2.1, r.2.2.2.1, r.2.2.2.2.1, r.2.2.2.2.2.1, r.2.2.2.2.2.2.1, r.2.2.2.2.2.2.2.1, r.2.2.2.2.2.2.2.2.1, r.2.2.2.2.2.2.2.2.2.1, r.2.2.2.2.2.2.2.2.2.2.1, r.2.2.2.2.2.2.2.2.2.2.2.1, r.2.2.2.2.2.2.2.2.2.2.2.2).2.1)) (C := RX7) (T := TX7) (N := 13) hx hb hts hiX7 hown hY.1 hP 0 rfl rfl 1 (by decide) kf7 (fun _ h9 => h9) rfl dX7_distinctEstimate_31 ?_
      refine lv_i2l hx hb dX7_distinctEstimate_34 rfl ?_
      refine lv_lconst (v := 1) hx hb dX7_distinctEstimate_35 (by decide) ?_
      refine lv_lsub hx hb dX7_distinctEstimate_36 ?_
      refine lv_ldc2 hx hb hown kc96 dX7_distinctEstimate_37 ?_
      refine lv_lmul hx hb dX7_distinctEstimate_40 ?_
      refine lv_aload_n hx hb dX7_distinctEstimate_41 rfl (lv_at hl 1 rfl) ?_
      refine va_get (D := G.1) (ci := 7) (v := .ref (ad (o+2))) (C := RX7) (T := TX7) (N := 13) hx hb hts hiX7 hown hY.1 hP 0 rfl rfl 4 (by decide) kf20 (fun _ h9 => h9) rfl dX7_distinctEstimate_42 ?_
      refine lv_aload_n hx hb dX7_distinctEstimate_45 rfl (lv_at hl 1 rfl) ?_
      refine lv_aload_n hx hb dX7_distinctEstimate_46 rfl (lv_at hl 1 rfl) ?_
      refine va_get (D := G.1) (ci := 7) (v := .int ((0, r.2.1, r.2.2.1, r.2.2.2.1, r.2.2.2.2.1, r.2.2.2.2.2.1, r.2.2.2.2.2.2.1, r.2.2.2.2.2.2.2.1, r.2.2.2.2.2.2.2.2.1, r.2.2.2.2.2.2.2.2.2.1, r.2.2.2.2.2.2.2.2.2.2.1, r.2.2.2.2.2.2.2.2.2.2.2.1, r.2.2.2.2.2.2.2.2.2.2.2.2).2.1)) (C := RX7) (T := TX7) (N := 13) hx hb hts hiX7 hown hY.1 hP 0 rfl rfl 1 (by decide) kf7 (fun _ h9 => h9) rfl dX7_distinctEstimate_47 ?_
      refine lv_iconst (v := 1) hx hb dX7_distinctEstimate_50 (by decide) ?_
      refine lv_isub hx hb dX7_distinctEstimate_51 ?_
      refine rdV (w0 := (wMo G ad o ((0, r.2.1, r.2.2.1, r.2.2.2.1, r.2.2.2.2.1, r.2.2.2.2.2.1, r.2.2.2.2.2.2.1, r.2.2.2.2.2.2.2.1, r.2.2.2.2.2.2.2.2.1, r.2.2.2.2.2.2.2.2.2.1, r.2.2.2.2.2.2.2.2.2.2.1, r.2.2.2.2.2.2.2.2.2.2.2.1, r.2.2.2.2.2.2.2.2.2.2.2.2).1, (0, r.2.1, r.2.2.1, r.2.2.2.1, r.2.2.2.2.1, r.2.2.2.2.2.1, r.2.2.2.2.2.2.1, r.2.2.2.2.2.2.2.1, r.2.2.2.2.2.2.2.2.1, r.2.2.2.2.2.2.2.2.2.1, r.2.2.2.2.2.2.2.2.2.2.1, r.2.2.2.2.2.2.2.2.2.2.2.1, r.2.2.2.2.2.2.2.2.2.2.2.2).2.1, (0, r.2.1, r.2.2.1, r.2.2.2.1, r.2.2.2.2.1, r.2.2.2.2.2.1, r.2.2.2.2.2.2.1, r.2.2.2.2.2.2.2.1, r.2.2.2.2.2.2.2.2.1, r.2.2.2.2.2.2.2.2.2.1, r.2.2.2.2.2.2.2.2.2.2.1, r.2.2.2.2.2.2.2.2.2.2.2.1, r.2.2.2.2.2.2.2.2.2.2.2.2).2.2.1, (0, r.2.1, r.2.2.1, r.2.2.2.1, r.2.2.2.2.1, r.2.2.2.2.2.1, r.2.2.2.2.2.2.1, r.2.2.2.2.2.2.2.1, r.2.2.2.2.2.2.2.2.1, r.2.2.2.2.2.2.2.2.2.1, r.2.2.2.2.2.2.2.2.2.2.1, r.2.2.2.2.2.2.2.2.2.2.2.1, r.2.2.2.2.2.2.2.2.2.2.2.2).2.2.2.1, (0, r.2.1, r.2.2.1, r.2.2.2.1, r.2.2.2.2.1, r.2.2.2.2.2.1, r.2.2.2.2.2.2.1, r.2.2.2.2.2.2.2.1, r.2.2.2.2.2.2.2.2.1, r.2.2.2.2.2.2.2.2.2.1, r.2.2.2.2.2.2.2.2.2.2.1, r.2.2.2.2.2.2.2.2.2.2.2.1, r.2.2.2.2.2.2.2.2.2.2.2.2).2.2.2.2.1, (0, r.2.1, r.2.2.1, r.2.2.2.1, r.2.2.2.2.1, r.2.2.2.2.2.1, r.2.2.2.2.2.2.1, r.2.2.2.2.2.2.2.1, r.2.2.2.2.2.2.2.2.1, r.2.2.2.2.2.2.2.2.2.1, r.2.2.2.2.2.2.2.2.2.2.1, r.2.2.2.2.2.2.2.2.2.2.2.1, r.2.2.2.2.2.2.2.2.2.2.2.2).2.2.2.2.2.1, (0, r.2.1, r.2.2.1, r.2.2.2.1, r.2.2.2.2.1, r.2.2.2.2.2.1, r.2.2.2.2.2.2.1, r.2.2.2.2.2.2.2.1, r.2.2.2.2.2.2.2.2.1, r.2.2.2.2.2.2.2.2.2.1, r.2.2.2.2.2.2.2.2.2.2.1, r.2.2.2.2.2.2.2.2.2.2.2.1, r.2.2.2.2.2.2.2.2.2.2.2.2).2.2.2.2.2.2.1, (0, r.2.1, r.2.2.1, r.2.2.2.1, r.2.2.2.2.1, r.2.2.2.2.2.1, r.2.2.2.2.2.2.1, r.2.2.2.2.2.2.2.1, r.2.2.2.2.2.2.2.2.1, r.2.2.2.2.2.2.2.2.2.1, r.2.2.2.2.2.2.2.2.2.2.1, r.2.2.2.2.2.2.2.2.2.2.2.1, r.2.2.2.2.2.2.2.2.2.2.2.2).2.2.2.2.2.2.2.1, (0, r.2.1, r.2.2.1, r.2.2.2.1, r.2.2.2.2.1, r.2.2.2.2.2.1, r.2.2.2.2.2.2.1, r.2.2.2.2.2.2.2.1, r.2.2.2.2.2.2.2.2.1, r.2.2.2.2.2.2.2.2.2.1, r.2.2.2.2.2.2.2.2.2.2.1, r.2.2.2.2.2.2.2.2.2.2.2.1, r.2.2.2.2.2.2.2.2.2.2.2.2).2.2.2.2.2.2.2.2.1, (mDs (0, r.2.1, r.2.2.1, r.2.2.2.1, r.2.2.2.2.1, r.2.2.2.2.2.1, r.2.2.2.2.2.2.1, r.2.2.2.2.2.2.2.1, r.2.2.2.2.2.2.2.2.1, r.2.2.2.2.2.2.2.2.2.1, r.2.2.2.2.2.2.2.2.2.2.1, r.2.2.2.2.2.2.2.2.2.2.2.1, r.2.2.2.2.2.2.2.2.2.2.2.2).2.2.2.1 (0, r.2.1, r.2.2.1, r.2.2.2.1, r.2.2.2.2.1, r.2.2.2.2.2.1, r.2.2.2.2.2.2.1, r.2.2.2.2.2.2.2.1, r.2.2.2.2.2.2.2.2.1, r.2.2.2.2.2.2.2.2.2.1, r.2.2.2.2.2.2.2.2.2.2.1, r.2.2.2.2.2.2.2.2.2.2.2.1, r.2.2.2.2.2.2.2.2.2.2.2.2).2.2.2.2.1 st (0, r.2.1, r.2.2.1, r.2.2.2.1, r.2.2.2.2.1, r.2.2.2.2.2.1, r.2.2.2.2.2.2.1, r.2.2.2.2.2.2.2.1, r.2.2.2.2.2.2.2.2.1, r.2.2.2.2.2.2.2.2.2.1, r.2.2.2.2.2.2.2.2.2.2.1, r.2.2.2.2.2.2.2.2.2.2.2.1, r.2.2.2.2.2.2.2.2.2.2.2.2).2.2.2.2.2.2.2.2.2.1).2, (0, r.2.1, r.2.2.1, r.2.2.2.1, r.2.2.2.2.1, r.2.2.2.2.2.1, r.2.2.2.2.2.2.1, r.2.2.2.2.2.2.2.1, r.2.2.2.2.2.2.2.2.1, r.2.2.2.2.2.2.2.2.2.1, r.2.2.2.2.2.2.2.2.2.2.1, r.2.2.2.2.2.2.2.2.2.2.2.1, r.2.2.2.2.2.2.2.2.2.2.2.2).2.2.2.2.2.2.2.2.2.2.1, (0, r.2.1, r.2.2.1, r.2.2.2.1, r.2.2.2.2.1, r.2.2.2.2.2.1, r.2.2.2.2.2.2.1, r.2.2.2.2.2.2.2.1, r.2.2.2.2.2.2.2.2.1, r.2.2.2.2.2.2.2.2.2.1, r.2.2.2.2.2.2.2.2.2.2.1, r.2.2.2.2.2.2.2.2.2.2.2.1, r.2.2.2.2.2.2.2.2.2.2.2.2).2.2.2.2.2.2.2.2.2.2.2.1, (0, r.2.1, r.2.2.1, r.2.2.2.1, r.2.2.2.2.1, r.2.2.2.2.2.1, r.2.2.2.2.2.2.1, r.2.2.2.2.2.2.2.1, r.2.2.2.2.2.2.2.2.1, r.2.2.2.2.2.2.2.2.2.1, r.2.2.2.2.2.2.2.2.2.2.1, r.2.2.2.2.2.2.2.2.2.2.2.1, r.2.2.2.2.2.2.2.2.2.2.2.2).2.2.2.2.2.2.2.2.2.2.2.2))) (As := [.int (((0, r.2.1, r.2.2.1, r.2.2.2.1, r.2.2.2.2.1, r.2.2.2.2.2.1, r.2.2.2.2.2.2.1, r.2.2.2.2.2.2.2.1, r.2.2.2.2.2.2.2.2.1, r.2.2.2.2.2.2.2.2.2.1, r.2.2.2.2.2.2.2.2.2.2.1, r.2.2.2.2.2.2.2.2.2.2.2.1, r.2.2.2.2.2.2.2.2.2.2.2.2).2.1) - 1)]) (rest := [.ref (ad (o+2)), .long (((((0, r.2.1, r.2.2.1, r.2.2.2.1, r.2.2.2.2.1, r.2.2.2.2.2.1, r.2.2.2.2.2.2.1, r.2.2.2.2.2.2.2.1, r.2.2.2.2.2.2.2.2.1, r.2.2.2.2.2.2.2.2.2.1, r.2.2.2.2.2.2.2.2.2.2.1, r.2.2.2.2.2.2.2.2.2.2.2.1, r.2.2.2.2.2.2.2.2.2.2.2.2).2.1).toInt64) - 1) * 4294967296)]) CF (k_X7_hashed l G ad o ((0, r.2.1, r.2.2.1, r.2.2.2.1, r.2.2.2.2.1, r.2.2.2.2.2.1, r.2.2.2.2.2.2.1, r.2.2.2.2.2.2.2.1, r.2.2.2.2.2.2.2.2.1, r.2.2.2.2.2.2.2.2.2.1, r.2.2.2.2.2.2.2.2.2.2.1, r.2.2.2.2.2.2.2.2.2.2.2.1, r.2.2.2.2.2.2.2.2.2.2.2.2).1, (0, r.2.1, r.2.2.1, r.2.2.2.1, r.2.2.2.2.1, r.2.2.2.2.2.1, r.2.2.2.2.2.2.1, r.2.2.2.2.2.2.2.1, r.2.2.2.2.2.2.2.2.1, r.2.2.2.2.2.2.2.2.2.1, r.2.2.2.2.2.2.2.2.2.2.1, r.2.2.2.2.2.2.2.2.2.2.2.1, r.2.2.2.2.2.2.2.2.2.2.2.2).2.1, (0, r.2.1, r.2.2.1, r.2.2.2.1, r.2.2.2.2.1, r.2.2.2.2.2.1, r.2.2.2.2.2.2.1, r.2.2.2.2.2.2.2.1, r.2.2.2.2.2.2.2.2.1, r.2.2.2.2.2.2.2.2.2.1, r.2.2.2.2.2.2.2.2.2.2.1, r.2.2.2.2.2.2.2.2.2.2.2.1, r.2.2.2.2.2.2.2.2.2.2.2.2).2.2.1, (0, r.2.1, r.2.2.1, r.2.2.2.1, r.2.2.2.2.1, r.2.2.2.2.2.1, r.2.2.2.2.2.2.1, r.2.2.2.2.2.2.2.1, r.2.2.2.2.2.2.2.2.1, r.2.2.2.2.2.2.2.2.2.1, r.2.2.2.2.2.2.2.2.2.2.1, r.2.2.2.2.2.2.2.2.2.2.2.1, r.2.2.2.2.2.2.2.2.2.2.2.2).2.2.2.1, (0, r.2.1, r.2.2.1, r.2.2.2.1, r.2.2.2.2.1, r.2.2.2.2.2.1, r.2.2.2.2.2.2.1, r.2.2.2.2.2.2.2.1, r.2.2.2.2.2.2.2.2.1, r.2.2.2.2.2.2.2.2.2.1, r.2.2.2.2.2.2.2.2.2.2.1, r.2.2.2.2.2.2.2.2.2.2.2.1, r.2.2.2.2.2.2.2.2.2.2.2.2).2.2.2.2.1, (0, r.2.1, r.2.2.1, r.2.2.2.1, r.2.2.2.2.1, r.2.2.2.2.2.1, r.2.2.2.2.2.2.1, r.2.2.2.2.2.2.2.1, r.2.2.2.2.2.2.2.2.1, r.2.2.2.2.2.2.2.2.2.1, r.2.2.2.2.2.2.2.2.2.2.1, r.2.2.2.2.2.2.2.2.2.2.2.1, r.2.2.2.2.2.2.2.2.2.2.2.2).2.2.2.2.2.1, (0, r.2.1, r.2.2.1, r.2.2.2.1, r.2.2.2.2.1, r.2.2.2.2.2.1, r.2.2.2.2.2.2.1, r.2.2.2.2.2.2.2.1, r.2.2.2.2.2.2.2.2.1, r.2.2.2.2.2.2.2.2.2.1, r.2.2.2.2.2.2.2.2.2.2.1, r.2.2.2.2.2.2.2.2.2.2.2.1, r.2.2.2.2.2.2.2.2.2.2.2.2).2.2.2.2.2.2.1, (0, r.2.1, r.2.2.1, r.2.2.2.1, r.2.2.2.2.1, r.2.2.2.2.2.1, r.2.2.2.2.2.2.1, r.2.2.2.2.2.2.2.1, r.2.2.2.2.2.2.2.2.1, r.2.2.2.2.2.2.2.2.2.1, r.2.2.2.2.2.2.2.2.2.2.1, r.2.2.2.2.2.2.2.2.2.2.2.1, r.2.2.2.2.2.2.2.2.2.2.2.2).2.2.2.2.2.2.2.1, (0, r.2.1, r.2.2.1, r.2.2.2.1, r.2.2.2.2.1, r.2.2.2.2.2.1, r.2.2.2.2.2.2.1, r.2.2.2.2.2.2.2.1, r.2.2.2.2.2.2.2.2.1, r.2.2.2.2.2.2.2.2.2.1, r.2.2.2.2.2.2.2.2.2.2.1, r.2.2.2.2.2.2.2.2.2.2.2.1, r.2.2.2.2.2.2.2.2.2.2.2.2).2.2.2.2.2.2.2.2.1, (mDs (0, r.2.1, r.2.2.1, r.2.2.2.1, r.2.2.2.2.1, r.2.2.2.2.2.1, r.2.2.2.2.2.2.1, r.2.2.2.2.2.2.2.1, r.2.2.2.2.2.2.2.2.1, r.2.2.2.2.2.2.2.2.2.1, r.2.2.2.2.2.2.2.2.2.2.1, r.2.2.2.2.2.2.2.2.2.2.2.1, r.2.2.2.2.2.2.2.2.2.2.2.2).2.2.2.1 (0, r.2.1, r.2.2.1, r.2.2.2.1, r.2.2.2.2.1, r.2.2.2.2.2.1, r.2.2.2.2.2.2.1, r.2.2.2.2.2.2.2.1, r.2.2.2.2.2.2.2.2.1, r.2.2.2.2.2.2.2.2.2.1, r.2.2.2.2.2.2.2.2.2.2.1, r.2.2.2.2.2.2.2.2.2.2.2.1, r.2.2.2.2.2.2.2.2.2.2.2.2).2.2.2.2.1 st (0, r.2.1, r.2.2.1, r.2.2.2.1, r.2.2.2.2.1, r.2.2.2.2.2.1, r.2.2.2.2.2.2.1, r.2.2.2.2.2.2.2.1, r.2.2.2.2.2.2.2.2.1, r.2.2.2.2.2.2.2.2.2.1, r.2.2.2.2.2.2.2.2.2.2.1, r.2.2.2.2.2.2.2.2.2.2.2.1, r.2.2.2.2.2.2.2.2.2.2.2.2).2.2.2.2.2.2.2.2.2.1).2, (0, r.2.1, r.2.2.1, r.2.2.2.1, r.2.2.2.2.1, r.2.2.2.2.2.1, r.2.2.2.2.2.2.1, r.2.2.2.2.2.2.2.1, r.2.2.2.2.2.2.2.2.1, r.2.2.2.2.2.2.2.2.2.1, r.2.2.2.2.2.2.2.2.2.2.1, r.2.2.2.2.2.2.2.2.2.2.2.1, r.2.2.2.2.2.2.2.2.2.2.2.2).2.2.2.2.2.2.2.2.2.2.1, (0, r.2.1, r.2.2.1, r.2.2.2.1, r.2.2.2.2.1, r.2.2.2.2.2.1, r.2.2.2.2.2.2.1, r.2.2.2.2.2.2.2.1, r.2.2.2.2.2.2.2.2.1, r.2.2.2.2.2.2.2.2.2.1, r.2.2.2.2.2.2.2.2.2.2.1, r.2.2.2.2.2.2.2.2.2.2.2.1, r.2.2.2.2.2.2.2.2.2.2.2.2).2.2.2.2.2.2.2.2.2.2.2.1, (0, r.2.1, r.2.2.1, r.2.2.2.1, r.2.2.2.2.1, r.2.2.2.2.2.1, r.2.2.2.2.2.2.1, r.2.2.2.2.2.2.2.1, r.2.2.2.2.2.2.2.2.1, r.2.2.2.2.2.2.2.2.2.1, r.2.2.2.2.2.2.2.2.2.2.1, r.2.2.2.2.2.2.2.2.2.2.2.1, r.2.2.2.2.2.2.2.2.2.2.2.2).2.2.2.2.2.2.2.2.2.2.2.2) (((0, r.2.1, r.2.2.1, r.2.2.2.1, r.2.2.2.2.1, r.2.2.2.2.2.1, r.2.2.2.2.2.2.1, r.2.2.2.2.2.2.2.1, r.2.2.2.2.2.2.2.2.1, r.2.2.2.2.2.2.2.2.2.1, r.2.2.2.2.2.2.2.2.2.2.1, r.2.2.2.2.2.2.2.2.2.2.2.1, r.2.2.2.2.2.2.2.2.2.2.2.2).2.1) - 1)) (cwV 1 hts gX7_distinctEstimate_X7_hashed rfl rfl rfl (by decide +kernel) ⟨Nat.le_of_ble_eq_true rfl, Nat.le_of_ble_eq_true rfl⟩) hP hY rfl rfl rfl hl.1 rfl (lv_room (Nat.le_of_ble_eq_true rfl)) dX7_distinctEstimate_52 ⟨Nat.zero_le _, Nat.zero_le _⟩ ?_
      refine va_iald hx hb hY.1 hP 2 0 rfl rfl (hd h22_2).1 dX7_distinctEstimate_55 ?_
      refine rdS (w0 := ([] : va_W)) (As := [.int (((0, r.2.1, r.2.2.1, r.2.2.2.1, r.2.2.2.2.1, r.2.2.2.2.2.1, r.2.2.2.2.2.2.1, r.2.2.2.2.2.2.2.1, r.2.2.2.2.2.2.2.2.1, r.2.2.2.2.2.2.2.2.2.1, r.2.2.2.2.2.2.2.2.2.2.1, r.2.2.2.2.2.2.2.2.2.2.2.1, r.2.2.2.2.2.2.2.2.2.2.2.2).2.2.2.2.1) (mHs ((0, r.2.1, r.2.2.1, r.2.2.2.1, r.2.2.2.2.1, r.2.2.2.2.2.1, r.2.2.2.2.2.2.1, r.2.2.2.2.2.2.2.1, r.2.2.2.2.2.2.2.2.1, r.2.2.2.2.2.2.2.2.2.1, r.2.2.2.2.2.2.2.2.2.2.1, r.2.2.2.2.2.2.2.2.2.2.2.1, r.2.2.2.2.2.2.2.2.2.2.2.2).1, (0, r.2.1, r.2.2.1, r.2.2.2.1, r.2.2.2.2.1, r.2.2.2.2.2.1, r.2.2.2.2.2.2.1, r.2.2.2.2.2.2.2.1, r.2.2.2.2.2.2.2.2.1, r.2.2.2.2.2.2.2.2.2.1, r.2.2.2.2.2.2.2.2.2.2.1, r.2.2.2.2.2.2.2.2.2.2.2.1, r.2.2.2.2.2.2.2.2.2.2.2.2).2.1, (0, r.2.1, r.2.2.1, r.2.2.2.1, r.2.2.2.2.1, r.2.2.2.2.2.1, r.2.2.2.2.2.2.1, r.2.2.2.2.2.2.2.1, r.2.2.2.2.2.2.2.2.1, r.2.2.2.2.2.2.2.2.2.1, r.2.2.2.2.2.2.2.2.2.2.1, r.2.2.2.2.2.2.2.2.2.2.2.1, r.2.2.2.2.2.2.2.2.2.2.2.2).2.2.1, (0, r.2.1, r.2.2.1, r.2.2.2.1, r.2.2.2.2.1, r.2.2.2.2.2.1, r.2.2.2.2.2.2.1, r.2.2.2.2.2.2.2.1, r.2.2.2.2.2.2.2.2.1, r.2.2.2.2.2.2.2.2.2.1, r.2.2.2.2.2.2.2.2.2.2.1, r.2.2.2.2.2.2.2.2.2.2.2.1, r.2.2.2.2.2.2.2.2.2.2.2.2).2.2.2.1, (0, r.2.1, r.2.2.1, r.2.2.2.1, r.2.2.2.2.1, r.2.2.2.2.2.1, r.2.2.2.2.2.2.1, r.2.2.2.2.2.2.2.1, r.2.2.2.2.2.2.2.2.1, r.2.2.2.2.2.2.2.2.2.1, r.2.2.2.2.2.2.2.2.2.2.1, r.2.2.2.2.2.2.2.2.2.2.2.1, r.2.2.2.2.2.2.2.2.2.2.2.2).2.2.2.2.1, (0, r.2.1, r.2.2.1, r.2.2.2.1, r.2.2.2.2.1, r.2.2.2.2.2.1, r.2.2.2.2.2.2.1, r.2.2.2.2.2.2.2.1, r.2.2.2.2.2.2.2.2.1, r.2.2.2.2.2.2.2.2.2.1, r.2.2.2.2.2.2.2.2.2.2.1, r.2.2.2.2.2.2.2.2.2.2.2.1, r.2.2.2.2.2.2.2.2.2.2.2.2).2.2.2.2.2.1, (0, r.2.1, r.2.2.1, r.2.2.2.1, r.2.2.2.2.1, r.2.2.2.2.2.1, r.2.2.2.2.2.2.1, r.2.2.2.2.2.2.2.1, r.2.2.2.2.2.2.2.2.1, r.2.2.2.2.2.2.2.2.2.1, r.2.2.2.2.2.2.2.2.2.2.1, r.2.2.2.2.2.2.2.2.2.2.2.1, r.2.2.2.2.2.2.2.2.2.2.2.2).2.2.2.2.2.2.1, (0, r.2.1, r.2.2.1, r.2.2.2.1, r.2.2.2.2.1, r.2.2.2.2.2.1, r.2.2.2.2.2.2.1, r.2.2.2.2.2.2.2.1, r.2.2.2.2.2.2.2.2.1, r.2.2.2.2.2.2.2.2.2.1, r.2.2.2.2.2.2.2.2.2.2.1, r.2.2.2.2.2.2.2.2.2.2.2.1, r.2.2.2.2.2.2.2.2.2.2.2.2).2.2.2.2.2.2.2.1, (0, r.2.1, r.2.2.1, r.2.2.2.1, r.2.2.2.2.1, r.2.2.2.2.2.1, r.2.2.2.2.2.2.1, r.2.2.2.2.2.2.2.1, r.2.2.2.2.2.2.2.2.1, r.2.2.2.2.2.2.2.2.2.1, r.2.2.2.2.2.2.2.2.2.2.1, r.2.2.2.2.2.2.2.2.2.2.2.1, r.2.2.2.2.2.2.2.2.2.2.2.2).2.2.2.2.2.2.2.2.1, (mDs (0, r.2.1, r.2.2.1, r.2.2.2.1, r.2.2.2.2.1, r.2.2.2.2.2.1, r.2.2.2.2.2.2.1, r.2.2.2.2.2.2.2.1, r.2.2.2.2.2.2.2.2.1, r.2.2.2.2.2.2.2.2.2.1, r.2.2.2.2.2.2.2.2.2.2.1, r.2.2.2.2.2.2.2.2.2.2.2.1, r.2.2.2.2.2.2.2.2.2.2.2.2).2.2.2.1 (0, r.2.1, r.2.2.1, r.2.2.2.1, r.2.2.2.2.1, r.2.2.2.2.2.1, r.2.2.2.2.2.2.1, r.2.2.2.2.2.2.2.1, r.2.2.2.2.2.2.2.2.1, r.2.2.2.2.2.2.2.2.2.1, r.2.2.2.2.2.2.2.2.2.2.1, r.2.2.2.2.2.2.2.2.2.2.2.1, r.2.2.2.2.2.2.2.2.2.2.2.2).2.2.2.2.1 st (0, r.2.1, r.2.2.1, r.2.2.2.1, r.2.2.2.2.1, r.2.2.2.2.2.1, r.2.2.2.2.2.2.1, r.2.2.2.2.2.2.2.1, r.2.2.2.2.2.2.2.2.1, r.2.2.2.2.2.2.2.2.2.1, r.2.2.2.2.2.2.2.2.2.2.1, r.2.2.2.2.2.2.2.2.2.2.2.1, r.2.2.2.2.2.2.2.2.2.2.2.2).2.2.2.2.2.2.2.2.2.1).2, (0, r.2.1, r.2.2.1, r.2.2.2.1, r.2.2.2.2.1, r.2.2.2.2.2.1, r.2.2.2.2.2.2.1, r.2.2.2.2.2.2.2.1, r.2.2.2.2.2.2.2.2.1, r.2.2.2.2.2.2.2.2.2.1, r.2.2.2.2.2.2.2.2.2.2.1, r.2.2.2.2.2.2.2.2.2.2.2.1, r.2.2.2.2.2.2.2.2.2.2.2.2).2.2.2.2.2.2.2.2.2.2.1, (0, r.2.1, r.2.2.1, r.2.2.2.1, r.2.2.2.2.1, r.2.2.2.2.2.1, r.2.2.2.2.2.2.1, r.2.2.2.2.2.2.2.1, r.2.2.2.2.2.2.2.2.1, r.2.2.2.2.2.2.2.2.2.1, r.2.2.2.2.2.2.2.2.2.2.1, r.2.2.2.2.2.2.2.2.2.2.2.1, r.2.2.2.2.2.2.2.2.2.2.2.2).2.2.2.2.2.2.2.2.2.2.2.1, (0, r.2.1, r.2.2.1, r.2.2.2.1, r.2.2.2.2.1, r.2.2.2.2.2.1, r.2.2.2.2.2.2.1, r.2.2.2.2.2.2.2.1, r.2.2.2.2.2.2.2.2.1, r.2.2.2.2.2.2.2.2.2.1, r.2.2.2.2.2.2.2.2.2.2.1, r.2.2.2.2.2.2.2.2.2.2.2.1, r.2.2.2.2.2.2.2.2.2.2.2.2).2.2.2.2.2.2.2.2.2.2.2.2).2.2.2.2.2.2.2.2.2.1 ((0, r.2.1, r.2.2.1, r.2.2.2.1, r.2.2.2.2.1, r.2.2.2.2.2.1, r.2.2.2.2.2.2.1, r.2.2.2.2.2.2.2.1, r.2.2.2.2.2.2.2.2.1, r.2.2.2.2.2.2.2.2.2.1, r.2.2.2.2.2.2.2.2.2.2.1, r.2.2.2.2.2.2.2.2.2.2.2.1, r.2.2.2.2.2.2.2.2.2.2.2.2).1, (0, r.2.1, r.2.2.1, r.2.2.2.1, r.2.2.2.2.1, r.2.2.2.2.2.1, r.2.2.2.2.2.2.1, r.2.2.2.2.2.2.2.1, r.2.2.2.2.2.2.2.2.1, r.2.2.2.2.2.2.2.2.2.1, r.2.2.2.2.2.2.2.2.2.2.1, r.2.2.2.2.2.2.2.2.2.2.2.1, r.2.2.2.2.2.2.2.2.2.2.2.2).2.1, (0, r.2.1, r.2.2.1, r.2.2.2.1, r.2.2.2.2.1, r.2.2.2.2.2.1, r.2.2.2.2.2.2.1, r.2.2.2.2.2.2.2.1, r.2.2.2.2.2.2.2.2.1, r.2.2.2.2.2.2.2.2.2.1, r.2.2.2.2.2.2.2.2.2.2.1, r.2.2.2.2.2.2.2.2.2.2.2.1, r.2.2.2.2.2.2.2.2.2.2.2.2).2.2.1, (0, r.2.1, r.2.2.1, r.2.2.2.1, r.2.2.2.2.1, r.2.2.2.2.2.1, r.2.2.2.2.2.2.1, r.2.2.2.2.2.2.2.1, r.2.2.2.2.2.2.2.2.1, r.2.2.2.2.2.2.2.2.2.1, r.2.2.2.2.2.2.2.2.2.2.1, r.2.2.2.2.2.2.2.2.2.2.2.1, r.2.2.2.2.2.2.2.2.2.2.2.2).2.2.2.1, (0, r.2.1, r.2.2.1, r.2.2.2.1, r.2.2.2.2.1, r.2.2.2.2.2.1, r.2.2.2.2.2.2.1, r.2.2.2.2.2.2.2.1, r.2.2.2.2.2.2.2.2.1, r.2.2.2.2.2.2.2.2.2.1, r.2.2.2.2.2.2.2.2.2.2.1, r.2.2.2.2.2.2.2.2.2.2.2.1, r.2.2.2.2.2.2.2.2.2.2.2.2).2.2.2.2.1, (0, r.2.1, r.2.2.1, r.2.2.2.1, r.2.2.2.2.1, r.2.2.2.2.2.1, r.2.2.2.2.2.2.1, r.2.2.2.2.2.2.2.1, r.2.2.2.2.2.2.2.2.1, r.2.2.2.2.2.2.2.2.2.1, r.2.2.2.2.2.2.2.2.2.2.1, r.2.2.2.2.2.2.2.2.2.2.2.1, r.2.2.2.2.2.2.2.2.2.2.2.2).2.2.2.2.2.1, (0, r.2.1, r.2.2.1, r.2.2.2.1, r.2.2.2.2.1, r.2.2.2.2.2.1, r.2.2.2.2.2.2.1, r.2.2.2.2.2.2.2.1, r.2.2.2.2.2.2.2.2.1, r.2.2.2.2.2.2.2.2.2.1, r.2.2.2.2.2.2.2.2.2.2.1, r.2.2.2.2.2.2.2.2.2.2.2.1, r.2.2.2.2.2.2.2.2.2.2.2.2).2.2.2.2.2.2.1, (0, r.2.1, r.2.2.1, r.2.2.2.1, r.2.2.2.2.1, r.2.2.2.2.2.1, r.2.2.2.2.2.2.1, r.2.2.2.2.2.2.2.1, r.2.2.2.2.2.2.2.2.1, r.2.2.2.2.2.2.2.2.2.1, r.2.2.2.2.2.2.2.2.2.2.1, r.2.2.2.2.2.2.2.2.2.2.2.1, r.2.2.2.2.2.2.2.2.2.2.2.2).2.2.2.2.2.2.2.1, (0, r.2.1, r.2.2.1, r.2.2.2.1, r.2.2.2.2.1, r.2.2.2.2.2.1, r.2.2.2.2.2.2.1, r.2.2.2.2.2.2.2.1, r.2.2.2.2.2.2.2.2.1, r.2.2.2.2.2.2.2.2.2.1, r.2.2.2.2.2.2.2.2.2.2.1, r.2.2.2.2.2.2.2.2.2.2.2.1, r.2.2.2.2.2.2.2.2.2.2.2.2).2.2.2.2.2.2.2.2.1, (mDs (0, r.2.1, r.2.2.1, r.2.2.2.1, r.2.2.2.2.1, r.2.2.2.2.2.1, r.2.2.2.2.2.2.1, r.2.2.2.2.2.2.2.1, r.2.2.2.2.2.2.2.2.1, r.2.2.2.2.2.2.2.2.2.1, r.2.2.2.2.2.2.2.2.2.2.1, r.2.2.2.2.2.2.2.2.2.2.2.1, r.2.2.2.2.2.2.2.2.2.2.2.2).2.2.2.1 (0, r.2.1, r.2.2.1, r.2.2.2.1, r.2.2.2.2.1, r.2.2.2.2.2.1, r.2.2.2.2.2.2.1, r.2.2.2.2.2.2.2.1, r.2.2.2.2.2.2.2.2.1, r.2.2.2.2.2.2.2.2.2.1, r.2.2.2.2.2.2.2.2.2.2.1, r.2.2.2.2.2.2.2.2.2.2.2.1, r.2.2.2.2.2.2.2.2.2.2.2.2).2.2.2.2.1 st (0, r.2.1, r.2.2.1, r.2.2.2.1, r.2.2.2.2.1, r.2.2.2.2.2.1, r.2.2.2.2.2.2.1, r.2.2.2.2.2.2.2.1, r.2.2.2.2.2.2.2.2.1, r.2.2.2.2.2.2.2.2.2.1, r.2.2.2.2.2.2.2.2.2.2.1, r.2.2.2.2.2.2.2.2.2.2.2.1, r.2.2.2.2.2.2.2.2.2.2.2.2).2.2.2.2.2.2.2.2.2.1).2, (0, r.2.1, r.2.2.1, r.2.2.2.1, r.2.2.2.2.1, r.2.2.2.2.2.1, r.2.2.2.2.2.2.1, r.2.2.2.2.2.2.2.1, r.2.2.2.2.2.2.2.2.1, r.2.2.2.2.2.2.2.2.2.1, r.2.2.2.2.2.2.2.2.2.2.1, r.2.2.2.2.2.2.2.2.2.2.2.1, r.2.2.2.2.2.2.2.2.2.2.2.2).2.2.2.2.2.2.2.2.2.2.1, (0, r.2.1, r.2.2.1, r.2.2.2.1, r.2.2.2.2.1, r.2.2.2.2.2.1, r.2.2.2.2.2.2.1, r.2.2.2.2.2.2.2.1, r.2.2.2.2.2.2.2.2.1, r.2.2.2.2.2.2.2.2.2.1, r.2.2.2.2.2.2.2.2.2.2.1, r.2.2.2.2.2.2.2.2.2.2.2.1, r.2.2.2.2.2.2.2.2.2.2.2.2).2.2.2.2.2.2.2.2.2.2.2.1, (0, r.2.1, r.2.2.1, r.2.2.2.1, r.2.2.2.2.1, r.2.2.2.2.2.1, r.2.2.2.2.2.2.1, r.2.2.2.2.2.2.2.1, r.2.2.2.2.2.2.2.2.1, r.2.2.2.2.2.2.2.2.2.1, r.2.2.2.2.2.2.2.2.2.2.1, r.2.2.2.2.2.2.2.2.2.2.2.1, r.2.2.2.2.2.2.2.2.2.2.2.2).2.2.2.2.2.2.2.2.2.2.2.2).2.2.2.2.1 (((0, r.2.1, r.2.2.1, r.2.2.2.1, r.2.2.2.2.1, r.2.2.2.2.2.1, r.2.2.2.2.2.2.1, r.2.2.2.2.2.2.2.1, r.2.2.2.2.2.2.2.2.1, r.2.2.2.2.2.2.2.2.2.1, r.2.2.2.2.2.2.2.2.2.2.1, r.2.2.2.2.2.2.2.2.2.2.2.1, r.2.2.2.2.2.2.2.2.2.2.2.2).2.1) - 1)).toNatClampNeg)]) (rest := [.long (((((0, r.2.1, r.2.2.1, r.2.2.2.1, r.2.2.2.2.1, r.2.2.2.2.2.1, r.2.2.2.2.2.2.1, r.2.2.2.2.2.2.2.1, r.2.2.2.2.2.2.2.2.1, r.2.2.2.2.2.2.2.2.2.1, r.2.2.2.2.2.2.2.2.2.2.1, r.2.2.2.2.2.2.2.2.2.2.2.1, r.2.2.2.2.2.2.2.2.2.2.2.2).2.1).toInt64) - 1) * 4294967296)]) CF (k_X7_hash l G (((0, r.2.1, r.2.2.1, r.2.2.2.1, r.2.2.2.2.1, r.2.2.2.2.2.1, r.2.2.2.2.2.2.1, r.2.2.2.2.2.2.2.1, r.2.2.2.2.2.2.2.2.1, r.2.2.2.2.2.2.2.2.2.1, r.2.2.2.2.2.2.2.2.2.2.1, r.2.2.2.2.2.2.2.2.2.2.2.1, r.2.2.2.2.2.2.2.2.2.2.2.2).2.2.2.2.1) (mHs ((0, r.2.1, r.2.2.1, r.2.2.2.1, r.2.2.2.2.1, r.2.2.2.2.2.1, r.2.2.2.2.2.2.1, r.2.2.2.2.2.2.2.1, r.2.2.2.2.2.2.2.2.1, r.2.2.2.2.2.2.2.2.2.1, r.2.2.2.2.2.2.2.2.2.2.1, r.2.2.2.2.2.2.2.2.2.2.2.1, r.2.2.2.2.2.2.2.2.2.2.2.2).1, (0, r.2.1, r.2.2.1, r.2.2.2.1, r.2.2.2.2.1, r.2.2.2.2.2.1, r.2.2.2.2.2.2.1, r.2.2.2.2.2.2.2.1, r.2.2.2.2.2.2.2.2.1, r.2.2.2.2.2.2.2.2.2.1, r.2.2.2.2.2.2.2.2.2.2.1, r.2.2.2.2.2.2.2.2.2.2.2.1, r.2.2.2.2.2.2.2.2.2.2.2.2).2.1, (0, r.2.1, r.2.2.1, r.2.2.2.1, r.2.2.2.2.1, r.2.2.2.2.2.1, r.2.2.2.2.2.2.1, r.2.2.2.2.2.2.2.1, r.2.2.2.2.2.2.2.2.1, r.2.2.2.2.2.2.2.2.2.1, r.2.2.2.2.2.2.2.2.2.2.1, r.2.2.2.2.2.2.2.2.2.2.2.1, r.2.2.2.2.2.2.2.2.2.2.2.2).2.2.1, (0, r.2.1, r.2.2.1, r.2.2.2.1, r.2.2.2.2.1, r.2.2.2.2.2.1, r.2.2.2.2.2.2.1, r.2.2.2.2.2.2.2.1, r.2.2.2.2.2.2.2.2.1, r.2.2.2.2.2.2.2.2.2.1, r.2.2.2.2.2.2.2.2.2.2.1, r.2.2.2.2.2.2.2.2.2.2.2.1, r.2.2.2.2.2.2.2.2.2.2.2.2).2.2.2.1, (0, r.2.1, r.2.2.1, r.2.2.2.1, r.2.2.2.2.1, r.2.2.2.2.2.1, r.2.2.2.2.2.2.1, r.2.2.2.2.2.2.2.1, r.2.2.2.2.2.2.2.2.1, r.2.2.2.2.2.2.2.2.2.1, r.2.2.2.2.2.2.2.2.2.2.1, r.2.2.2.2.2.2.2.2.2.2.2.1, r.2.2.2.2.2.2.2.2.2.2.2.2).2.2.2.2.1, (0, r.2.1, r.2.2.1, r.2.2.2.1, r.2.2.2.2.1, r.2.2.2.2.2.1, r.2.2.2.2.2.2.1, r.2.2.2.2.2.2.2.1, r.2.2.2.2.2.2.2.2.1, r.2.2.2.2.2.2.2.2.2.1, r.2.2.2.2.2.2.2.2.2.2.1, r.2.2.2.2.2.2.2.2.2.2.2.1, r.2.2.2.2.2.2.2.2.2.2.2.2).2.2.2.2.2.1, (0, r.2.1, r.2.2.1, r.2.2.2.1, r.2.2.2.2.1, r.2.2.2.2.2.1, r.2.2.2.2.2.2.1, r.2.2.2.2.2.2.2.1, r.2.2.2.2.2.2.2.2.1, r.2.2.2.2.2.2.2.2.2.1, r.2.2.2.2.2.2.2.2.2.2.1, r.2.2.2.2.2.2.2.2.2.2.2.1, r.2.2.2.2.2.2.2.2.2.2.2.2).2.2.2.2.2.2.1, (0, r.2.1, r.2.2.1, r.2.2.2.1, r.2.2.2.2.1, r.2.2.2.2.2.1, r.2.2.2.2.2.2.1, r.2.2.2.2.2.2.2.1, r.2.2.2.2.2.2.2.2.1, r.2.2.2.2.2.2.2.2.2.1, r.2.2.2.2.2.2.2.2.2.2.1, r.2.2.2.2.2.2.2.2.2.2.2.1, r.2.2.2.2.2.2.2.2.2.2.2.2).2.2.2.2.2.2.2.1, (0, r.2.1, r.2.2.1, r.2.2.2.1, r.2.2.2.2.1, r.2.2.2.2.2.1, r.2.2.2.2.2.2.1, r.2.2.2.2.2.2.2.1, r.2.2.2.2.2.2.2.2.1, r.2.2.2.2.2.2.2.2.2.1, r.2.2.2.2.2.2.2.2.2.2.1, r.2.2.2.2.2.2.2.2.2.2.2.1, r.2.2.2.2.2.2.2.2.2.2.2.2).2.2.2.2.2.2.2.2.1, (mDs (0, r.2.1, r.2.2.1, r.2.2.2.1, r.2.2.2.2.1, r.2.2.2.2.2.1, r.2.2.2.2.2.2.1, r.2.2.2.2.2.2.2.1, r.2.2.2.2.2.2.2.2.1, r.2.2.2.2.2.2.2.2.2.1, r.2.2.2.2.2.2.2.2.2.2.1, r.2.2.2.2.2.2.2.2.2.2.2.1, r.2.2.2.2.2.2.2.2.2.2.2.2).2.2.2.1 (0, r.2.1, r.2.2.1, r.2.2.2.1, r.2.2.2.2.1, r.2.2.2.2.2.1, r.2.2.2.2.2.2.1, r.2.2.2.2.2.2.2.1, r.2.2.2.2.2.2.2.2.1, r.2.2.2.2.2.2.2.2.2.1, r.2.2.2.2.2.2.2.2.2.2.1, r.2.2.2.2.2.2.2.2.2.2.2.1, r.2.2.2.2.2.2.2.2.2.2.2.2).2.2.2.2.1 st (0, r.2.1, r.2.2.1, r.2.2.2.1, r.2.2.2.2.1, r.2.2.2.2.2.1, r.2.2.2.2.2.2.1, r.2.2.2.2.2.2.2.1, r.2.2.2.2.2.2.2.2.1, r.2.2.2.2.2.2.2.2.2.1, r.2.2.2.2.2.2.2.2.2.2.1, r.2.2.2.2.2.2.2.2.2.2.2.1, r.2.2.2.2.2.2.2.2.2.2.2.2).2.2.2.2.2.2.2.2.2.1).2, (0, r.2.1, r.2.2.1, r.2.2.2.1, r.2.2.2.2.1, r.2.2.2.2.2.1, r.2.2.2.2.2.2.1, r.2.2.2.2.2.2.2.1, r.2.2.2.2.2.2.2.2.1, r.2.2.2.2.2.2.2.2.2.1, r.2.2.2.2.2.2.2.2.2.2.1, r.2.2.2.2.2.2.2.2.2.2.2.1, r.2.2.2.2.2.2.2.2.2.2.2.2).2.2.2.2.2.2.2.2.2.2.1, (0, r.2.1, r.2.2.1, r.2.2.2.1, r.2.2.2.2.1, r.2.2.2.2.2.1, r.2.2.2.2.2.2.1, r.2.2.2.2.2.2.2.1, r.2.2.2.2.2.2.2.2.1, r.2.2.2.2.2.2.2.2.2.1, r.2.2.2.2.2.2.2.2.2.2.1, r.2.2.2.2.2.2.2.2.2.2.2.1, r.2.2.2.2.2.2.2.2.2.2.2.2).2.2.2.2.2.2.2.2.2.2.2.1, (0, r.2.1, r.2.2.1, r.2.2.2.1, r.2.2.2.2.1, r.2.2.2.2.2.1, r.2.2.2.2.2.2.1, r.2.2.2.2.2.2.2.1, r.2.2.2.2.2.2.2.2.1, r.2.2.2.2.2.2.2.2.2.1, r.2.2.2.2.2.2.2.2.2.2.1, r.2.2.2.2.2.2.2.2.2.2.2.1, r.2.2.2.2.2.2.2.2.2.2.2.2).2.2.2.2.2.2.2.2.2.2.2.2).2.2.2.2.2.2.2.2.2.1 ((0, r.2.1, r.2.2.1, r.2.2.2.1, r.2.2.2.2.1, r.2.2.2.2.2.1, r.2.2.2.2.2.2.1, r.2.2.2.2.2.2.2.1, r.2.2.2.2.2.2.2.2.1, r.2.2.2.2.2.2.2.2.2.1, r.2.2.2.2.2.2.2.2.2.2.1, r.2.2.2.2.2.2.2.2.2.2.2.1, r.2.2.2.2.2.2.2.2.2.2.2.2).1, (0, r.2.1, r.2.2.1, r.2.2.2.1, r.2.2.2.2.1, r.2.2.2.2.2.1, r.2.2.2.2.2.2.1, r.2.2.2.2.2.2.2.1, r.2.2.2.2.2.2.2.2.1, r.2.2.2.2.2.2.2.2.2.1, r.2.2.2.2.2.2.2.2.2.2.1, r.2.2.2.2.2.2.2.2.2.2.2.1, r.2.2.2.2.2.2.2.2.2.2.2.2).2.1, (0, r.2.1, r.2.2.1, r.2.2.2.1, r.2.2.2.2.1, r.2.2.2.2.2.1, r.2.2.2.2.2.2.1, r.2.2.2.2.2.2.2.1, r.2.2.2.2.2.2.2.2.1, r.2.2.2.2.2.2.2.2.2.1, r.2.2.2.2.2.2.2.2.2.2.1, r.2.2.2.2.2.2.2.2.2.2.2.1, r.2.2.2.2.2.2.2.2.2.2.2.2).2.2.1, (0, r.2.1, r.2.2.1, r.2.2.2.1, r.2.2.2.2.1, r.2.2.2.2.2.1, r.2.2.2.2.2.2.1, r.2.2.2.2.2.2.2.1, r.2.2.2.2.2.2.2.2.1, r.2.2.2.2.2.2.2.2.2.1, r.2.2.2.2.2.2.2.2.2.2.1, r.2.2.2.2.2.2.2.2.2.2.2.1, r.2.2.2.2.2.2.2.2.2.2.2.2).2.2.2.1, (0, r.2.1, r.2.2.1, r.2.2.2.1, r.2.2.2.2.1, r.2.2.2.2.2.1, r.2.2.2.2.2.2.1, r.2.2.2.2.2.2.2.1, r.2.2.2.2.2.2.2.2.1, r.2.2.2.2.2.2.2.2.2.1, r.2.2.2.2.2.2.2.2.2.2.1, r.2.2.2.2.2.2.2.2.2.2.2.1, r.2.2.2.2.2.2.2.2.2.2.2.2).2.2.2.2.1, (0, r.2.1, r.2.2.1, r.2.2.2.1, r.2.2.2.2.1, r.2.2.2.2.2.1, r.2.2.2.2.2.2.1, r.2.2.2.2.2.2.2.1, r.2.2.2.2.2.2.2.2.1, r.2.2.2.2.2.2.2.2.2.1, r.2.2.2.2.2.2.2.2.2.2.1, r.2.2.2.2.2.2.2.2.2.2.2.1, r.2.2.2.2.2.2.2.2.2.2.2.2).2.2.2.2.2.1, (0, r.2.1, r.2.2.1, r.2.2.2.1, r.2.2.2.2.1, r.2.2.2.2.2.1, r.2.2.2.2.2.2.1, r.2.2.2.2.2.2.2.1, r.2.2.2.2.2.2.2.2.1, r.2.2.2.2.2.2.2.2.2.1, r.2.2.2.2.2.2.2.2.2.2.1, r.2.2.2.2.2.2.2.2.2.2.2.1, r.2.2.2.2.2.2.2.2.2.2.2.2).2.2.2.2.2.2.1, (0, r.2.1, r.2.2.1, r.2.2.2.1, r.2.2.2.2.1, r.2.2.2.2.2.1, r.2.2.2.2.2.2.1, r.2.2.2.2.2.2.2.1, r.2.2.2.2.2.2.2.2.1, r.2.2.2.2.2.2.2.2.2.1, r.2.2.2.2.2.2.2.2.2.2.1, r.2.2.2.2.2.2.2.2.2.2.2.1, r.2.2.2.2.2.2.2.2.2.2.2.2).2.2.2.2.2.2.2.1, (0, r.2.1, r.2.2.1, r.2.2.2.1, r.2.2.2.2.1, r.2.2.2.2.2.1, r.2.2.2.2.2.2.1, r.2.2.2.2.2.2.2.1, r.2.2.2.2.2.2.2.2.1, r.2.2.2.2.2.2.2.2.2.1, r.2.2.2.2.2.2.2.2.2.2.1, r.2.2.2.2.2.2.2.2.2.2.2.1, r.2.2.2.2.2.2.2.2.2.2.2.2).2.2.2.2.2.2.2.2.1, (mDs (0, r.2.1, r.2.2.1, r.2.2.2.1, r.2.2.2.2.1, r.2.2.2.2.2.1, r.2.2.2.2.2.2.1, r.2.2.2.2.2.2.2.1, r.2.2.2.2.2.2.2.2.1, r.2.2.2.2.2.2.2.2.2.1, r.2.2.2.2.2.2.2.2.2.2.1, r.2.2.2.2.2.2.2.2.2.2.2.1, r.2.2.2.2.2.2.2.2.2.2.2.2).2.2.2.1 (0, r.2.1, r.2.2.1, r.2.2.2.1, r.2.2.2.2.1, r.2.2.2.2.2.1, r.2.2.2.2.2.2.1, r.2.2.2.2.2.2.2.1, r.2.2.2.2.2.2.2.2.1, r.2.2.2.2.2.2.2.2.2.1, r.2.2.2.2.2.2.2.2.2.2.1, r.2.2.2.2.2.2.2.2.2.2.2.1, r.2.2.2.2.2.2.2.2.2.2.2.2).2.2.2.2.1 st (0, r.2.1, r.2.2.1, r.2.2.2.1, r.2.2.2.2.1, r.2.2.2.2.2.1, r.2.2.2.2.2.2.1, r.2.2.2.2.2.2.2.1, r.2.2.2.2.2.2.2.2.1, r.2.2.2.2.2.2.2.2.2.1, r.2.2.2.2.2.2.2.2.2.2.1, r.2.2.2.2.2.2.2.2.2.2.2.1, r.2.2.2.2.2.2.2.2.2.2.2.2).2.2.2.2.2.2.2.2.2.1).2, (0, r.2.1, r.2.2.1, r.2.2.2.1, r.2.2.2.2.1, r.2.2.2.2.2.1, r.2.2.2.2.2.2.1, r.2.2.2.2.2.2.2.1, r.2.2.2.2.2.2.2.2.1, r.2.2.2.2.2.2.2.2.2.1, r.2.2.2.2.2.2.2.2.2.2.1, r.2.2.2.2.2.2.2.2.2.2.2.1, r.2.2.2.2.2.2.2.2.2.2.2.2).2.2.2.2.2.2.2.2.2.2.1, (0, r.2.1, r.2.2.1, r.2.2.2.1, r.2.2.2.2.1, r.2.2.2.2.2.1, r.2.2.2.2.2.2.1, r.2.2.2.2.2.2.2.1, r.2.2.2.2.2.2.2.2.1, r.2.2.2.2.2.2.2.2.2.1, r.2.2.2.2.2.2.2.2.2.2.1, r.2.2.2.2.2.2.2.2.2.2.2.1, r.2.2.2.2.2.2.2.2.2.2.2.2).2.2.2.2.2.2.2.2.2.2.2.1, (0, r.2.1, r.2.2.1, r.2.2.2.1, r.2.2.2.2.1, r.2.2.2.2.2.1, r.2.2.2.2.2.2.1, r.2.2.2.2.2.2.2.1, r.2.2.2.2.2.2.2.2.1, r.2.2.2.2.2.2.2.2.2.1, r.2.2.2.2.2.2.2.2.2.2.1, r.2.2.2.2.2.2.2.2.2.2.2.1, r.2.2.2.2.2.2.2.2.2.2.2.2).2.2.2.2.2.2.2.2.2.2.2.2).2.2.2.2.1 (((0, r.2.1, r.2.2.1, r.2.2.2.1, r.2.2.2.2.1, r.2.2.2.2.2.1, r.2.2.2.2.2.2.1, r.2.2.2.2.2.2.2.1, r.2.2.2.2.2.2.2.2.1, r.2.2.2.2.2.2.2.2.2.1, r.2.2.2.2.2.2.2.2.2.2.1, r.2.2.2.2.2.2.2.2.2.2.2.1, r.2.2.2.2.2.2.2.2.2.2.2.2).2.1) - 1)).toNatClampNeg)) (va_cwS 1 hts gX7_distinctEstimate_X7_hash rfl rfl rfl (by decide +kernel) ⟨Nat.le_of_ble_eq_true rfl, Nat.le_of_ble_eq_true rfl⟩) va_P_nil hY rfl hl.1 rfl (lv_room (Nat.le_of_ble_eq_true rfl)) dX7_distinctEstimate_56 ⟨Nat.zero_le _, Nat.zero_le _⟩ ?_
      refine lv_ldiv hx hb dX7_distinctEstimate_59 (hd h22_2).2 ?_
      exact wr_lret hx hb hr hlk hS hP (by first | with_reducible rfl | (simp only [sld_eq, eq_true h6_1, h22_2, ↓reduceIte]; done)) (by first | with_reducible rfl | (simp only [sld_eq, eq_true h6_1, h22_2, ↓reduceIte]; done)) dX7_distinctEstimate_60
    · refine lv_iload_n hx hb dX7_distinctEstimate_25 rfl (lv_at hl 0 rfl) ?_
      refine lv_i2l hx hb dX7_distinctEstimate_26 rfl ?_
      refine lv_goto (tgt := 60) hx hb dX7_distinctEstimate_27 (by decide) ?_
      exact wr_lret hx hb hr hlk hS hP (by first | with_reducible rfl | (simp only [sld_eq, eq_true h6_1, h22_2, ↓reduceIte]; done)) (by first | with_reducible rfl | (simp only [sld_eq, eq_true h6_1, h22_2, ↓reduceIte]; done)) dX7_distinctEstimate_60
  · exact absurd rfl h6_1

set_option maxHeartbeats 4000000 in
set_option maxRecDepth 100000 in
theorem kn_X7_distinctEstimate (l : Launch) (G : GT) (ad : Nat → Nat) (o : Nat) (r : MoT) (st : Int32) (hk : ¬ okA st 0 2) : Wr l yX7_distinctEstimate wsX7_distinctEstimate { frames := 3, cells := 0, slots := 0, locals := 69 } G (wMo G ad o r) (wMo G ad o (1, r.2)) [.ref (ad o), .int st] (some (.long 0)) := by
  intro sz
  refine Met.ofW (cc := cX7_distinctEstimate) (maxL := 3) (ret := (some .long)) (by decide) rfl ?_
  intro p e s m args below meth c s₁ B hml hv
  obtain ⟨rfl, hsz, hP, hY, hD0⟩ := hv
  subst hsz
  have hD := hD0.self (sz := s.heap.size)
  generalize hAe : va_A (wMo G ad o r) s.heap.size = A at hD ⊢
  have hA : ∀ q : Nat, s.heap.size ≤ q → A q := fun q h => by rw [← hAe]; exact Or.inr h
  have hS : va_S A s.heap s.heap [] := va_S.rf
  have hx := B.exec
  have hb := B.bytes
  have hr := B.returns
  have hts := atoms_spec (ws := wsX7_distinctEstimate) B.pre
  have hown : s.vm.findClass RX7 = some m.cls := findClass_of_methodNamed B.named
  have hlk := B.notSynchronized
  have CF : CallFix p m c cX7_distinctEstimate 3 s _ wsX7_distinctEstimate RX7 := ⟨hx, hb, hml, hown, hts⟩
  have hl := lv_entry ([.ref (ad o), .int st]) (n := 3) (Nat.le_of_ble_eq_true rfl)
  rw [lg_entry_eq]
  generalize (lg_sl ([.ref (ad o), .int st]) ++ List.replicate (3 - (lg_sl ([.ref (ad o), .int st])).length) Slot.unset).toArray = ls at hl ⊢
  have hl : lv_has ls 3 [(0, .ref (ad o)), (1, .int st)] := hl
  refine lv_aload_n hx hb dX7_distinctEstimate_0 rfl (lv_at hl 0 rfl) ?_
  refine lv_iload_n hx hb dX7_distinctEstimate_1 rfl (lv_at hl 1 rfl) ?_
  refine lv_iconst (v := 2) hx hb dX7_distinctEstimate_2 (by decide) ?_
  refine wrV [] (wMo G ad o r) [] (wMo G ad o (1, r.2)) (As := [.int st, .int 2]) (rest := []) CF (kn_X7_noStream l G ad o r st 2 hk) (cwV 2 hts gX7_distinctEstimate_X7_noStream rfl rfl rfl (by decide +kernel) ⟨Nat.le_of_ble_eq_true rfl, Nat.le_of_ble_eq_true rfl⟩) hP hD hS hA hY rfl rfl (fst_Mo _ _ _ _ _) rfl hl.1 rfl (lv_room (Nat.le_of_ble_eq_true rfl)) dX7_distinctEstimate_3 ⟨Nat.zero_le _, Nat.zero_le _⟩ (fun H locs hP hD hS => ?_)
  have hP : va_P G.1 vwCl (wMo G ad o (1, r.2.1, r.2.2.1, r.2.2.2.1, r.2.2.2.2.1, r.2.2.2.2.2.1, r.2.2.2.2.2.2.1, r.2.2.2.2.2.2.2.1, r.2.2.2.2.2.2.2.2.1, r.2.2.2.2.2.2.2.2.2.1, r.2.2.2.2.2.2.2.2.2.2.1, r.2.2.2.2.2.2.2.2.2.2.2.1, r.2.2.2.2.2.2.2.2.2.2.2.2)) H := hP
  have hD : va_D A (wMo G ad o (1, r.2.1, r.2.2.1, r.2.2.2.1, r.2.2.2.2.1, r.2.2.2.2.2.1, r.2.2.2.2.2.2.1, r.2.2.2.2.2.2.2.1, r.2.2.2.2.2.2.2.2.1, r.2.2.2.2.2.2.2.2.2.1, r.2.2.2.2.2.2.2.2.2.2.1, r.2.2.2.2.2.2.2.2.2.2.2.1, r.2.2.2.2.2.2.2.2.2.2.2.2)) := hD
  refine lv_if_eq (tgt := 11) hx hb dX7_distinctEstimate_6 (by decide) (fun h6_1 => ?_) (fun h6_1 => ?_)
  · exact absurd h6_1 (by decide)
  · refine lv_lconst (v := 0) hx hb dX7_distinctEstimate_9 (by decide) ?_
    exact wr_lret hx hb hr hlk hS hP (by first | with_reducible rfl | (simp only [sld_eq, h6_1, ↓reduceIte]; done)) (by first | with_reducible rfl | (simp only [sld_eq, h6_1, ↓reduceIte]; done)) dX7_distinctEstimate_10
