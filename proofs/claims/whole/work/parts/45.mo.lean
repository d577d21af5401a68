set_option maxHeartbeats 4000000 in
set_option maxRecDepth 100000 in
theorem k_X7_runChain (l : Launch) (G : GT) (ad : Nat → Nat) (o : Nat) (r : MoT) (st : Int32) (h0 : okA st 0 1) (hw : ¬ r.2.2.1 = 0) (mz : Nat) (hmm : r.2.2.2.1 st.toNatClampNeg = nI mz) (hm3 : mz ≤ 300) (hBn : ∀ n : Nat, 1 ≤ n → n ≤ mz → vp_in (((300 * st) + (nI n)) - 1) 600) (hT : mRcT r.2.2.1 r.2.2.2.2.2.2.2.1 r.2.2.2.2.2.2.2.2.1 st (r.2.2.2.1 st.toNatClampNeg) (301 - 1 + 1) 1 0 0 r.2.2.2.2.2.2.2.2.2.2.1) : Wr l yX7_runChain wsX7_runChain { frames := 0, cells := 0, slots := 0, locals := 0 } G (wMo G ad o r) (wMo G ad o (r.1, r.2.1, r.2.2.1, r.2.2.2.1, r.2.2.2.2.1, r.2.2.2.2.2.1, r.2.2.2.2.2.2.1, r.2.2.2.2.2.2.2.1, r.2.2.2.2.2.2.2.2.1, r.2.2.2.2.2.2.2.2.2.1, (mRcL r.2.2.1 r.2.2.2.2.2.2.2.1 r.2.2.2.2.2.2.2.2.1 st (r.2.2.2.1 st.toNatClampNeg) (301 - 1 + 1) 1 0 0 r.2.2.2.2.2.2.2.2.2.2.1).2.2, nI (mRcL r.2.2.1 r.2.2.2.2.2.2.2.1 r.2.2.2.2.2.2.2.2.1 st (r.2.2.2.1 st.toNatClampNeg) (301 - 1 + 1) 1 0 0 r.2.2.2.2.2.2.2.2.2.2.1).1, (mRcL r.2.2.1 r.2.2.2.2.2.2.2.1 r.2.2.2.2.2.2.2.2.1 st (r.2.2.2.1 st.toNatClampNeg) (301 - 1 + 1) 1 0 0 r.2.2.2.2.2.2.2.2.2.2.1).2.1)) [.ref (ad o), .int st] none := by
  intro sz
  refine Met.ofW (cc := cX7_runChain) (maxL := 6) (ret := none) (by decide) rfl ?_
  intro p e s m args below meth c s₁ B hml hv
  obtain ⟨rfl, hsz, hP, hY, hD0⟩ := hv
  subst hsz
  have hD := hD0.self (sz := s.heap.size)
  generalize hAe : va_A (wMo G ad o r) s.heap.size = A at hD ⊢
  have hA : ∀ q : Nat, s.heap.size ≤ q → A q := fun q h => by rw [← hAe]; exact Or.inr h
  have hS : va_S A s.heap s.heap [] := va_S.rf
  have hx := B.exec
  have hb := B.bytes
  have hr := B.returns
  have hts := atoms_spec (ws := wsX7_runChain) B.pre
  have hown : s.vm.findClass RX7 = some m.cls := findClass_of_methodNamed B.named
  have hlk := B.notSynchronized
  have CF : CallFix p m c cX7_runChain 6 s _ wsX7_runChain RX7 := ⟨hx, hb, hml, hown, hts⟩
  have hiX7 : ∀ w ∈ wsX70, w ∈ wsX7_runChain := fun w h => (List.mem_cons_of_mem _ (List.mem_append_right _ h))
  have kf113 := hts (.fieldLink RX7 113 "ReservoirReedModel" "chained" "I") (List.mem_cons_of_mem _ (List.mem_append_left _ (List.mem_of_getElem? (i := 0) rfl)))
  have kf116 := hts (.fieldLink RX7 116 "ReservoirReedModel" "next" "I") (List.mem_cons_of_mem _ (List.mem_append_left _ (List.mem_of_getElem? (i := 1) rfl)))
  have kf16 := hts (.fieldLink RX7 16 "ReservoirReedModel" "many" "[I") (List.mem_cons_of_mem _ (List.mem_append_left _ (List.mem_of_getElem? (i := 2) rfl)))
  have kf29 := hts (.fieldLink RX7 29 "ReservoirReedModel" "firsts" "[I") (List.mem_cons_of_mem _ (List.mem_append_left _ (List.mem_of_getElem? (i := 3) rfl)))
  have kf13 := hts (.fieldLink RX7 13 "ReservoirReedModel" "window" "I") (List.mem_cons_of_mem _ (List.mem_append_left _ (List.mem_of_getElem? (i := 4) rfl)))
  have kf39 := hts (.fieldLink RX7 39 "ReservoirReedModel" "chain" "[I") (List.mem_cons_of_mem _ (List.mem_append_left _ (List.mem_of_getElem? (i := 5) rfl)))
  have kf32 := hts (.fieldLink RX7 32 "ReservoirReedModel" "seconds" "[I") (List.mem_cons_of_mem _ (List.mem_append_left _ (List.mem_of_getElem? (i := 6) rfl)))
  have hl := lv_entry ([.ref (ad o), .int st]) (n := 6) (Nat.le_of_ble_eq_true rfl)
  rw [lg_entry_eq]
  generalize (lg_sl ([.ref (ad o), .int st]) ++ List.replicate (6 - (lg_sl ([.ref (ad o), .int st])).length) Slot.unset).toArray = ls at hl ⊢
  have hl : lv_has ls 6 [(0, .ref (ad o)), (1, .int st)] := hl
  refine lv_aload_n hx hb dX7_runChain_0 rfl (lv_at hl 0 rfl) ?_
  refine lv_iconst (v := 0) hx hb dX7_runChain_1 (by decide) ?_
  refine va_put (D := G.1) (ci := 7) (v := .int 0) (ty := .int) (C := RX7) (T := TX7) (N := 13) hx hb hts hiX7 tyX7 tyX7_ok nmX7 hown hY.1 hP hD hS 0 rfl rfl 11 (by decide) kf113 (fun _ h9 => h9) rfl (by decide +kernel) rfl rfl (Nat.le_of_ble_eq_true rfl) dX7_runChain_2 (fun H locs hP hD hS => ?_)
  have hP : va_P G.1 vwCl (wMo G ad o (r.1, r.2.1, r.2.2.1, r.2.2.2.1, r.2.2.2.2.1, r.2.2.2.2.2.1, r.2.2.2.2.2.2.1, r.2.2.2.2.2.2.2.1, r.2.2.2.2.2.2.2.2.1, r.2.2.2.2.2.2.2.2.2.1, r.2.2.2.2.2.2.2.2.2.2.1, 0, r.2.2.2.2.2.2.2.2.2.2.2.2)) H := hP
  have hD : va_D A (wMo G ad o (r.1, r.2.1, r.2.2.1, r.2.2.2.1, r.2.2.2.2.1, r.2.2.2.2.2.1, r.2.2.2.2.2.2.1, r.2.2.2.2.2.2.2.1, r.2.2.2.2.2.2.2.2.1, r.2.2.2.2.2.2.2.2.2.1, r.2.2.2.2.2.2.2.2.2.2.1, 0, r.2.2.2.2.2.2.2.2.2.2.2.2)) := hD
  refine lv_aload_n hx hb dX7_runChain_5 rfl (lv_at hl 0 rfl) ?_
  refine lv_iconst (v := 0) hx hb dX7_runChain_6 (by decide) ?_
  refine va_put (D := G.1) (ci := 7) (v := .int 0) (ty := .int) (C := RX7) (T := TX7) (N := 13) hx hb hts hiX7 tyX7 tyX7_ok nmX7 hown hY.1 hP hD hS 0 rfl rfl 12 (by decide) kf116 (fun _ h9 => h9) rfl (by decide +kernel) rfl rfl (Nat.le_of_ble_eq_true rfl) dX7_runChain_7 (fun H locs hP hD hS => ?_)
  have hP : va_P G.1 vwCl (wMo G ad o (r.1, r.2.1, r.2.2.1, r.2.2.2.1, r.2.2.2.2.1, r.2.2.2.2.2.1, r.2.2.2.2.2.2.1, r.2.2.2.2.2.2.2.1, r.2.2.2.2.2.2.2.2.1, r.2.2.2.2.2.2.2.2.2.1, r.2.2.2.2.2.2.2.2.2.2.1, 0, 0)) H := hP
  have hD : va_D A (wMo G ad o (r.1, r.2.1, r.2.2.1, r.2.2.2.1, r.2.2.2.2.1, r.2.2.2.2.2.1, r.2.2.2.2.2.2.1, r.2.2.2.2.2.2.2.1, r.2.2.2.2.2.2.2.2.1, r.2.2.2.2.2.2.2.2.2.1, r.2.2.2.2.2.2.2.2.2.2.1, 0, 0)) := hD
  refine lv_iconst (v := 1) hx hb dX7_runChain_10 (by decide) ?_
  refine lv_istore_n (lv' := [(2, .int 1), (0, .ref (ad o)), (1, .int st)]) hx hb dX7_runChain_11 rfl hl (by decide) rfl (fun ls hl => ?_)
  have loop1 : ∀ (fu : Nat) (n : Nat) (cz : Nat) (x : Int32) (h : Nat → Int32), 301 - n < fu → mRcL r.2.2.1 r.2.2.2.2.2.2.2.1 r.2.2.2.2.2.2.2.2.1 st (r.2.2.2.1 st.toNatClampNeg) fu n cz x h = mRcL r.2.2.1 r.2.2.2.2.2.2.2.1 r.2.2.2.2.2.2.2.2.1 st (r.2.2.2.1 st.toNatClampNeg) (301 - 1 + 1) 1 0 0 r.2.2.2.2.2.2.2.2.2.2.1 → 1 ≤ n ∧ n ≤ mz + 1 ∧ cz < n → mRcT r.2.2.1 r.2.2.2.2.2.2.2.1 r.2.2.2.2.2.2.2.2.1 st (r.2.2.2.1 st.toNatClampNeg) fu n cz x h → ∀ (H : Heap) (locs : List Loc) (ls : Array Slot), va_P G.1 vwCl (wMo G ad o (r.1, r.2.1, r.2.2.1, r.2.2.2.1, r.2.2.2.2.1, r.2.2.2.2.2.1, r.2.2.2.2.2.2.1, r.2.2.2.2.2.2.2.1, r.2.2.2.2.2.2.2.2.1, r.2.2.2.2.2.2.2.2.2.1, h, nI cz, x)) H → va_D A (wMo G ad o (r.1, r.2.1, r.2.2.1, r.2.2.2.1, r.2.2.2.2.1, r.2.2.2.2.2.1, r.2.2.2.2.2.2.1, r.2.2.2.2.2.2.2.1, r.2.2.2.2.2.2.2.2.1, r.2.2.2.2.2.2.2.2.2.1, h, nI cz, x)) → va_S A s.heap H locs → lv_has ls 6 [(2, .int (nI n)), (0, .ref (ad o)), (1, .int st)] → W p l e (headSpec wsX7_runChain { frames := 0, cells := 0, slots := 0, locals := 0 }).room s m ([.ref (ad o), .int st] : List Value).toArray below meth c H locs 0 0 (MQ below (WQ none G (wMo G ad o (r.1, r.2.1, r.2.2.1, r.2.2.2.1, r.2.2.2.2.1, r.2.2.2.2.2.1, r.2.2.2.2.2.2.1, r.2.2.2.2.2.2.2.1, r.2.2.2.2.2.2.2.2.1, r.2.2.2.2.2.2.2.2.2.1, (mRcL r.2.2.1 r.2.2.2.2.2.2.2.1 r.2.2.2.2.2.2.2.2.1 st (r.2.2.2.1 st.toNatClampNeg) (301 - 1 + 1) 1 0 0 r.2.2.2.2.2.2.2.2.2.2.1).2.2, nI (mRcL r.2.2.1 r.2.2.2.2.2.2.2.1 r.2.2.2.2.2.2.2.2.1 st (r.2.2.2.1 st.toNatClampNeg) (301 - 1 + 1) 1 0 0 r.2.2.2.2.2.2.2.2.2.2.1).1, (mRcL r.2.2.1 r.2.2.2.2.2.2.2.1 r.2.2.2.2.2.2.2.2.1 st (r.2.2.2.1 st.toNatClampNeg) (301 - 1 + 1) 1 0 0 r.2.2.2.2.2.2.2.2.2.2.1).2.1)) A) ([.ref (ad o), .int st] : List Value).toArray s 0 0 A) (F0 m 12 ls []) := by
    intro fu
    induction fu with
    | zero => intro n cz x h hm; exact absurd hm (Nat.not_lt_zero _)
    | succ fu ih =>
      intro n cz x h hm hR1 hn1 hT2 H locs ls hP hD hS hl
      refine lv_iload_n hx hb dX7_runChain_12 rfl (lv_at hl 0 rfl) ?_
      refine lv_aload_n hx hb dX7_runChain_13 rfl (lv_at hl 1 rfl) ?_
      refine va_get (D := G.1) (ci := 7) (v := .ref (ad (o+1))) (C := RX7) (T := TX7) (N := 13) hx hb hts hiX7 hown hY.1 hP 0 rfl rfl 3 (by decide) kf16 (fun _ h9 => h9) rfl dX7_runChain_14 ?_
      refine lv_iload_n hx hb dX7_runChain_17 rfl (lv_at hl 2 rfl) ?_
      refine va_iald hx hb hY.1 hP 1 0 rfl rfl (vp_st1 h0) dX7_runChain_18 ?_
      refine lv_icmp_gt (tgt := 202) hx hb dX7_runChain_19 (by decide) (fun h19_1 => ?_) (fun h19_1 => ?_)
      · exact wr_vret hx hb hr hlk hS hP (by first | with_reducible rfl | (simp only [sld_eq, ↓reduceIte]; rw [← hR1]; simp only [mRcL, h19_1, ↓reduceIte]) | (rw [← hR1]; simp only [mRcL, h19_1, ↓reduceIte])) dX7_runChain_202
      · refine lv_sipush (v := 300) hx hb dX7_runChain_22 (by decide) ?_
        refine lv_iload_n hx hb dX7_runChain_25 rfl (lv_at hl 2 rfl) ?_
        refine lv_imul hx hb dX7_runChain_26 ?_
        refine lv_iload_n hx hb dX7_runChain_27 rfl (lv_at hl 0 rfl) ?_
        refine lv_iadd hx hb dX7_runChain_28 ?_
        refine lv_iconst (v := 1) hx hb dX7_runChain_29 (by decide) ?_
        refine lv_isub hx hb dX7_runChain_30 ?_
        refine lv_istore_n (lv' := [(3, .int (((300 * st) + (nI n)) - 1)), (2, .int (nI n)), (0, .ref (ad o)), (1, .int st)]) hx hb dX7_runChain_31 rfl hl (by decide) rfl (fun ls hl => ?_)
        refine lv_aload_n hx hb dX7_runChain_32 rfl (lv_at hl 2 rfl) ?_
        refine va_get (D := G.1) (ci := 7) (v := .ref (ad (o+5))) (C := RX7) (T := TX7) (N := 13) hx hb hts hiX7 hown hY.1 hP 0 rfl rfl 7 (by decide) kf29 (fun _ h9 => h9) rfl dX7_runChain_33 ?_
        refine lv_iload_n hx hb dX7_runChain_36 rfl (lv_at hl 0 rfl) ?_
        refine va_iald hx hb hY.1 hP 5 0 rfl rfl (hBn n hn1.1 (rc_le hmm hm3 (Nat.le_trans hn1.2.1 (Nat.succ_le_succ hm3)) h19_1)) dX7_runChain_37 ?_
        refine lv_iload_n hx hb dX7_runChain_38 rfl (lv_at hl 1 rfl) ?_
        refine lv_aload_n hx hb dX7_runChain_39 rfl (lv_at hl 2 rfl) ?_
        refine va_get (D := G.1) (ci := 7) (v := .int r.2.2.1) (C := RX7) (T := TX7) (N := 13) hx hb hts hiX7 hown hY.1 hP 0 rfl rfl 2 (by decide) kf13 (fun _ h9 => h9) rfl dX7_runChain_40 ?_
        refine lv_icmp_ge (tgt := 50) hx hb dX7_runChain_43 (by decide) (fun h43_2 => ?_) (fun h43_2 => ?_)
        · refine lv_aload_n hx hb dX7_runChain_50 rfl (lv_at hl 2 rfl) ?_
          refine va_get (D := G.1) (ci := 7) (v := .int r.2.2.1) (C := RX7) (T := TX7) (N := 13) hx hb hts hiX7 hown hY.1 hP 0 rfl rfl 2 (by decide) kf13 (fun _ h9 => h9) rfl dX7_runChain_51 ?_
          refine lv_irem hx hb dX7_runChain_54 hw ?_
          refine lv_if_ne (tgt := 62) hx hb dX7_runChain_55 (by decide) (fun h55_3 => ?_) (fun h55_3 => ?_)
          · refine lv_iconst (v := 0) hx hb dX7_runChain_62 (by decide) ?_
            refine lv_istore (lv' := [(4, .int 0), (3, .int (((300 * st) + (nI n)) - 1)), (2, .int (nI n)), (0, .ref (ad o)), (1, .int st)]) hx hb dX7_runChain_63 hl (by decide) rfl (fun ls hl => ?_)
            refine lv_iload hx hb dX7_runChain_65 (lv_at hl 0 rfl) ?_
            refine lv_if_ne (tgt := 78) hx hb dX7_runChain_67 (by decide) (fun h67_4 => ?_) (fun h67_4 => ?_)
            · exact absurd rfl h67_4
            · refine lv_iload_n hx hb dX7_runChain_70 rfl (lv_at hl 2 rfl) ?_
              refine lv_aload_n hx hb dX7_runChain_71 rfl (lv_at hl 3 rfl) ?_
              refine va_get (D := G.1) (ci := 7) (v := .int x) (C := RX7) (T := TX7) (N := 13) hx hb hts hiX7 hown hY.1 hP 0 rfl rfl 12 (by decide) kf116 (fun _ h9 => h9) rfl dX7_runChain_72 ?_
              refine lv_icmp_ne (tgt := 134) hx hb dX7_runChain_75 (by decide) (fun h75_5 => ?_) (fun h75_5 => ?_)
              · have loop2 : ∀ (fu2 : Nat) (cw : Nat) (hw9 : Nat → Int32), cw < fu2 → mChW r.2.2.1 n fu2 cw hw9 = mChW r.2.2.1 n (cz + 1) cz h → cw ≤ 300 → mWt r.2.2.1 n cw hw9 → ∀ (H : Heap) (locs : List Loc) (ls : Array Slot), va_P G.1 vwCl (wMo G ad o (r.1, r.2.1, r.2.2.1, r.2.2.2.1, r.2.2.2.2.1, r.2.2.2.2.2.1, r.2.2.2.2.2.2.1, r.2.2.2.2.2.2.2.1, r.2.2.2.2.2.2.2.2.1, r.2.2.2.2.2.2.2.2.2.1, hw9, nI cw, x)) H → va_D A (wMo G ad o (r.1, r.2.1, r.2.2.1, r.2.2.2.1, r.2.2.2.2.1, r.2.2.2.2.2.1, r.2.2.2.2.2.2.1, r.2.2.2.2.2.2.2.1, r.2.2.2.2.2.2.2.2.1, r.2.2.2.2.2.2.2.2.2.1, hw9, nI cw, x)) → va_S A s.heap H locs → lv_has ls 6 [(4, .int 0), (3, .int (((300 * st) + (nI n)) - 1)), (2, .int (nI n)), (0, .ref (ad o)), (1, .int st)] → W p l e (headSpec wsX7_runChain { frames := 0, cells := 0, slots := 0, locals := 0 }).room s m ([.ref (ad o), .int st] : List Value).toArray below meth c H locs 0 0 (MQ below (WQ none G (wMo G ad o (r.1, r.2.1, r.2.2.1, r.2.2.2.1, r.2.2.2.2.1, r.2.2.2.2.2.1, r.2.2.2.2.2.2.1, r.2.2.2.2.2.2.2.1, r.2.2.2.2.2.2.2.2.1, r.2.2.2.2.2.2.2.2.2.1, (mRcL r.2.2.1 r.2.2.2.2.2.2.2.1 r.2.2.2.2.2.2.2.2.1 st (r.2.2.2.1 st.toNatClampNeg) (301 - 1 + 1) 1 0 0 r.2.2.2.2.2.2.2.2.2.2.1).2.2, nI (mRcL r.2.2.1 r.2.2.2.2.2.2.2.1 r.2.2.2.2.2.2.2.2.1 st (r.2.2.2.1 st.toNatClampNeg) (301 - 1 + 1) 1 0 0 r.2.2.2.2.2.2.2.2.2.2.1).1, (mRcL r.2.2.1 r.2.2.2.2.2.2.2.1 r.2.2.2.2.2.2.2.2.1 st (r.2.2.2.1 st.toNatClampNeg) (301 - 1 + 1) 1 0 0 r.2.2.2.2.2.2.2.2.2.2.1).2.1)) A) ([.ref (ad o), .int st] : List Value).toArray s 0 0 A) (F0 m 134 ls []) := by
                  intro fu2
                  induction fu2 with
                  | zero => intro cw hw9 hm; exact absurd hm (Nat.not_lt_zero _)
                  | succ fu2 ih2 =>
                    intro cw hw9 hm2 hR2 hc9 hwt H locs ls hP hD hS hl
                    refine lv_aload_n hx hb dX7_runChain_134 rfl (lv_at hl 3 rfl) ?_
                    refine va_get (D := G.1) (ci := 7) (v := .ref (ad (o+8))) (C := RX7) (T := TX7) (N := 13) hx hb hts hiX7 hown hY.1 hP 0 rfl rfl 10 (by decide) kf39 (fun _ h9 => h9) rfl dX7_runChain_135 ?_
                    refine lv_iconst (v := 0) hx hb dX7_runChain_138 (by decide) ?_
                    refine va_iald hx hb hY.1 hP 8 0 rfl rfl vp_0_300 dX7_runChain_139 ?_
                    refine lv_iload_n hx hb dX7_runChain_140 rfl (lv_at hl 2 rfl) ?_
                    refine lv_aload_n hx hb dX7_runChain_141 rfl (lv_at hl 3 rfl) ?_
                    refine va_get (D := G.1) (ci := 7) (v := .int r.2.2.1) (C := RX7) (T := TX7) (N := 13) hx hb hts hiX7 hown hY.1 hP 0 rfl rfl 2 (by decide) kf13 (fun _ h9 => h9) rfl dX7_runChain_142 ?_
                    refine lv_isub hx hb dX7_runChain_145 ?_
                    refine lv_icmp_gt (tgt := 196) hx hb dX7_runChain_146 (by decide) (fun h146_6 => ?_) (fun h146_6 => ?_)
                    · have hOcw : cw = (mChW r.2.2.1 n (cz + 1) cz h).1 := by rw [← hR2]; simp only [mChW, h146_6, ↓reduceIte]
                      have hOhw9 : hw9 = (mChW r.2.2.1 n (cz + 1) cz h).2 := by rw [← hR2]; simp only [mChW, h146_6, ↓reduceIte]
                      subst hOcw
                      subst hOhw9
                      refine lv_iinc (v := (nI n) + 1) (lv' := [(2, .int ((nI n) + 1)), (4, .int 0), (3, .int (((300 * st) + (nI n)) - 1)), (0, .ref (ad o)), (1, .int st)]) hx hb dX7_runChain_196 hl (k := 2) rfl rfl (by decide) rfl (fun ls hl => ?_)
                      rw [show (nI n) + 1 = nI (n+1) from (nI_succ n).symm] at hl
                      refine lv_goto (tgt := 12) hx hb dX7_runChain_199 (by decide) ?_
                      exact ih (n+1) ((mChW r.2.2.1 n (cz + 1) cz h).1) x ((mChW r.2.2.1 n (cz + 1) cz h).2) (by have := (rc_le hmm hm3 (Nat.le_trans hn1.2.1 (Nat.succ_le_succ hm3)) h19_1); omega) (by rw [← hR1]; simp only [mRcL, h19_1, h43_2, h55_3, eq_true h67_4, h75_5, ↓reduceIte]) ⟨by omega, Nat.succ_le_succ (rc_le hmm hm3 (Nat.le_trans hn1.2.1 (Nat.succ_le_succ hm3)) h19_1), Nat.lt_succ_of_le (Nat.le_trans mChW_le (by omega))⟩ (by have q := hT2; simp only [mRcT, h19_1, h43_2, h55_3, eq_true h67_4, h75_5, ↓reduceIte] at q; exact q.2) _ _ ls hP hD hS (lv_sub hl [0, 3, 4] rfl)
                    · refine lv_aload_n hx hb dX7_runChain_149 rfl (lv_at hl 3 rfl) ?_
                      refine lv_dup hx hb dX7_runChain_150 rfl ?_
                      refine va_get (D := G.1) (ci := 7) (v := .int (nI cw)) (C := RX7) (T := TX7) (N := 13) hx hb hts hiX7 hown hY.1 hP 0 rfl rfl 11 (by decide) kf113 (fun _ h9 => h9) rfl dX7_runChain_151 ?_
                      refine lv_iconst (v := 1) hx hb dX7_runChain_154 (by decide) ?_
                      refine lv_isub hx hb dX7_runChain_155 ?_
                      rw [show (nI cw) - 1 = nI (cw - 1) from nI_m1 (mWt_go hwt h146_6).1]
                      refine va_put (D := G.1) (ci := 7) (v := .int (nI (cw - 1))) (ty := .int) (C := RX7) (T := TX7) (N := 13) hx hb hts hiX7 tyX7 tyX7_ok nmX7 hown hY.1 hP hD hS 0 rfl rfl 11 (by decide) kf113 (fun _ h9 => h9) rfl (by decide +kernel) rfl rfl (Nat.le_of_ble_eq_true rfl) dX7_runChain_156 (fun H locs hP hD hS => ?_)
                      have hP : va_P G.1 vwCl (wMo G ad o (r.1, r.2.1, r.2.2.1, r.2.2.2.1, r.2.2.2.2.1, r.2.2.2.2.2.1, r.2.2.2.2.2.2.1, r.2.2.2.2.2.2.2.1, r.2.2.2.2.2.2.2.2.1, r.2.2.2.2.2.2.2.2.2.1, hw9, nI (cw - 1), x)) H := hP
                      have hD : va_D A (wMo G ad o (r.1, r.2.1, r.2.2.1, r.2.2.2.1, r.2.2.2.2.1, r.2.2.2.2.2.1, r.2.2.2.2.2.2.1, r.2.2.2.2.2.2.2.1, r.2.2.2.2.2.2.2.2.1, r.2.2.2.2.2.2.2.2.2.1, hw9, nI (cw - 1), x)) := hD
                      refine lv_iconst (v := 0) hx hb dX7_runChain_159 (by decide) ?_
                      refine lv_istore (lv' := [(5, .int 0), (4, .int 0), (3, .int (((300 * st) + (nI n)) - 1)), (2, .int (nI n)), (0, .ref (ad o)), (1, .int st)]) hx hb dX7_runChain_160 hl (by decide) rfl (fun ls hl => ?_)
                      have loop3 : ∀ (fu3 : Nat) (j : Nat) (v : Nat → Int32), cw - 1 - j < fu3 → mShL (cw - 1) fu3 j v = mShL (cw - 1) (cw - 1 - 0 + 1) 0 hw9 → j ≤ cw - 1 → ∀ (H : Heap) (locs : List Loc) (ls : Array Slot), va_P G.1 vwCl (wMo G ad o (r.1, r.2.1, r.2.2.1, r.2.2.2.1, r.2.2.2.2.1, r.2.2.2.2.2.1, r.2.2.2.2.2.2.1, r.2.2.2.2.2.2.2.1, r.2.2.2.2.2.2.2.2.1, r.2.2.2.2.2.2.2.2.2.1, v, nI (cw - 1), x)) H → va_D A (wMo G ad o (r.1, r.2.1, r.2.2.1, r.2.2.2.1, r.2.2.2.2.1, r.2.2.2.2.2.1, r.2.2.2.2.2.2.1, r.2.2.2.2.2.2.2.1, r.2.2.2.2.2.2.2.2.1, r.2.2.2.2.2.2.2.2.2.1, v, nI (cw - 1), x)) → va_S A s.heap H locs → lv_has ls 6 [(5, .int (nI j)), (4, .int 0), (3, .int (((300 * st) + (nI n)) - 1)), (2, .int (nI n)), (0, .ref (ad o)), (1, .int st)] → W p l e (headSpec wsX7_runChain { frames := 0, cells := 0, slots := 0, locals := 0 }).room s m ([.ref (ad o), .int st] : List Value).toArray below meth c H locs 0 0 (MQ below (WQ none G (wMo G ad o (r.1, r.2.1, r.2.2.1, r.2.2.2.1, r.2.2.2.2.1, r.2.2.2.2.2.1, r.2.2.2.2.2.2.1, r.2.2.2.2.2.2.2.1, r.2.2.2.2.2.2.2.2.1, r.2.2.2.2.2.2.2.2.2.1, (mRcL r.2.2.1 r.2.2.2.2.2.2.2.1 r.2.2.2.2.2.2.2.2.1 st (r.2.2.2.1 st.toNatClampNeg) (301 - 1 + 1) 1 0 0 r.2.2.2.2.2.2.2.2.2.2.1).2.2, nI (mRcL r.2.2.1 r.2.2.2.2.2.2.2.1 r.2.2.2.2.2.2.2.2.1 st (r.2.2.2.1 st.toNatClampNeg) (301 - 1 + 1) 1 0 0 r.2.2.2.2.2.2.2.2.2.2.1).1, (mRcL r.2.2.1 r.2.2.2.2.2.2.2.1 r.2.2.2.2.2.2.2.2.1 st (r.2.2.2.1 st.toNatClampNeg) (301 - 1 + 1) 1 0 0 r.2.2.2.2.2.2.2.2.2.2.1).2.1)) A) ([.ref (ad o), .int st] : List Value).toArray s 0 0 A) (F0 m 162 ls []) := by
                        intro fu3
                        induction fu3 with
                        | zero => intro j v hm; exact absurd hm (Nat.not_lt_zero _)
                        | succ fu3 ih3 =>
                          intro j v hm3 hR3 hj9 H locs ls hP hD hS hl
                          refine lv_iload hx hb dX7_runChain_162 (lv_at hl 0 rfl) ?_
                          refine lv_aload_n hx hb dX7_runChain_164 rfl (lv_at hl 4 rfl) ?_
                          refine va_get (D := G.1) (ci := 7) (v := .int (nI (cw - 1))) (C := RX7) (T := TX7) (N := 13) hx hb hts hiX7 hown hY.1 hP 0 rfl rfl 11 (by decide) kf113 (fun _ h9 => h9) rfl dX7_runChain_165 ?_
                          refine lv_icmp_ge (tgt := 193) hx hb dX7_runChain_168 (by decide) (fun h168_7 => ?_) (fun h168_7 => ?_)
                          · obtain rfl : v = (mShL (cw - 1) (cw - 1 - 0 + 1) 0 hw9) := by rw [← hR3]; simp only [mShL, h168_7, ↓reduceIte]
                            refine lv_goto (tgt := 134) hx hb dX7_runChain_193 (by decide) ?_
                            exact ih2 (cw - 1) ((mShL (cw - 1) (cw - 1 - 0 + 1) 0 hw9)) (by have := (mWt_go hwt h146_6).1; omega) (by rw [← hR2]; simp only [mChW, h146_6, ↓reduceIte]) (by have := (mWt_go hwt h146_6).1; omega) (mWt_go hwt h146_6).2 _ _ ls hP hD hS (lv_sub hl [1, 2, 3, 4, 5] rfl)
                          · refine lv_aload_n hx hb dX7_runChain_171 rfl (lv_at hl 4 rfl) ?_
                            refine va_get (D := G.1) (ci := 7) (v := .ref (ad (o+8))) (C := RX7) (T := TX7) (N := 13) hx hb hts hiX7 hown hY.1 hP 0 rfl rfl 10 (by decide) kf39 (fun _ h9 => h9) rfl dX7_runChain_172 ?_
                            refine lv_iload hx hb dX7_runChain_175 (lv_at hl 0 rfl) ?_
                            refine lv_aload_n hx hb dX7_runChain_177 rfl (lv_at hl 4 rfl) ?_
                            refine va_get (D := G.1) (ci := 7) (v := .ref (ad (o+8))) (C := RX7) (T := TX7) (N := 13) hx hb hts hiX7 hown hY.1 hP 0 rfl rfl 10 (by decide) kf39 (fun _ h9 => h9) rfl dX7_runChain_178 ?_
                            refine lv_iload hx hb dX7_runChain_181 (lv_at hl 0 rfl) ?_
                            refine lv_iconst (v := 1) hx hb dX7_runChain_183 (by decide) ?_
                            refine lv_iadd hx hb dX7_runChain_184 ?_
                            refine va_iald hx hb hY.1 hP 8 0 rfl rfl (by rw [← nI_succ]; exact vp_nI (by have := (sh_lt (by omega) hj9 h168_7); omega) (by decide)) dX7_runChain_185 ?_
                            refine va_iast hx hb hY.1 hP hD hS 8 0 rfl rfl (vp_nI (by have := (sh_lt (by omega) hj9 h168_7); omega) (by decide)) dX7_runChain_186 (fun H locs hP hD hS => ?_)
                            have hP : va_P G.1 vwCl (wMo G ad o (r.1, r.2.1, r.2.2.1, r.2.2.2.1, r.2.2.2.2.1, r.2.2.2.2.2.1, r.2.2.2.2.2.2.1, r.2.2.2.2.2.2.2.1, r.2.2.2.2.2.2.2.2.1, r.2.2.2.2.2.2.2.2.2.1, upd v (nI j).toNatClampNeg (v ((nI j) + 1).toNatClampNeg), nI (cw - 1), x)) H := hP
                            have hD : va_D A (wMo G ad o (r.1, r.2.1, r.2.2.1, r.2.2.2.1, r.2.2.2.2.1, r.2.2.2.2.2.1, r.2.2.2.2.2.2.1, r.2.2.2.2.2.2.2.1, r.2.2.2.2.2.2.2.2.1, r.2.2.2.2.2.2.2.2.2.1, upd v (nI j).toNatClampNeg (v ((nI j) + 1).toNatClampNeg), nI (cw - 1), x)) := hD
                            refine lv_iinc (v := (nI j) + 1) (lv' := [(5, .int ((nI j) + 1)), (4, .int 0), (3, .int (((300 * st) + (nI n)) - 1)), (2, .int (nI n)), (0, .ref (ad o)), (1, .int st)]) hx hb dX7_runChain_187 hl (k := 0) rfl rfl (by decide) rfl (fun ls hl => ?_)
                            rw [show (nI j) + 1 = nI (j+1) from (nI_succ j).symm] at hl
                            refine lv_goto (tgt := 162) hx hb dX7_runChain_190 (by decide) ?_
                            exact ih3 (j+1) (upd v (nI j).toNatClampNeg (v ((nI j) + 1).toNatClampNeg)) (by have := (sh_lt (by omega) hj9 h168_7); omega) (by rw [← hR3]; simp only [mShL, h168_7, ↓reduceIte]) (sh_lt (by omega) hj9 h168_7) _ _ ls hP hD hS (lv_sub hl [0, 1, 2, 3, 4, 5] rfl)
                      exact loop3 (cw - 1 - 0 + 1) 0 hw9 (Nat.lt_succ_self _) rfl (Nat.zero_le _) _ _ ls hP hD hS (lv_sub hl [0, 1, 2, 3, 4, 5] rfl)
                exact loop2 (cz + 1) cz h (Nat.lt_succ_self _) rfl (by have := (rc_le hmm hm3 (Nat.le_trans hn1.2.1 (Nat.succ_le_succ hm3)) h19_1); omega) (by have q := hT2; simp only [mRcT, h19_1, h43_2, h55_3, eq_true h67_4, h75_5, ↓reduceIte] at q; exact q.1) _ _ ls hP hD hS (lv_sub hl [0, 1, 2, 3, 4] rfl)
              · refine lv_aload_n hx hb dX7_runChain_78 rfl (lv_at hl 3 rfl) ?_
                refine lv_iload hx hb dX7_runChain_79 (lv_at hl 0 rfl) ?_
                refine lv_if_eq (tgt := 88) hx hb dX7_runChain_81 (by decide) (fun h81_8 => ?_) (fun h81_8 => ?_)
                · refine lv_aload_n hx hb dX7_runChain_88 rfl (lv_at hl 3 rfl) ?_
                  refine va_get (D := G.1) (ci := 7) (v := .int (nI cz)) (C := RX7) (T := TX7) (N := 13) hx hb hts hiX7 hown hY.1 hP 0 rfl rfl 11 (by decide) kf113 (fun _ h9 => h9) rfl dX7_runChain_89 ?_
                  refine va_put (D := G.1) (ci := 7) (v := .int (nI cz)) (ty := .int) (C := RX7) (T := TX7) (N := 13) hx hb hts hiX7 tyX7 tyX7_ok nmX7 hown hY.1 hP hD hS 0 rfl rfl 11 (by decide) kf113 (fun _ h9 => h9) rfl (by decide +kernel) rfl rfl (Nat.le_of_ble_eq_true rfl) dX7_runChain_92 (fun H locs hP hD hS => ?_)
                  have hP : va_P G.1 vwCl (wMo G ad o (r.1, r.2.1, r.2.2.1, r.2.2.2.1, r.2.2.2.2.1, r.2.2.2.2.2.1, r.2.2.2.2.2.2.1, r.2.2.2.2.2.2.2.1, r.2.2.2.2.2.2.2.2.1, r.2.2.2.2.2.2.2.2.2.1, h, nI cz, x)) H := hP
                  have hD : va_D A (wMo G ad o (r.1, r.2.1, r.2.2.1, r.2.2.2.1, r.2.2.2.2.1, r.2.2.2.2.2.1, r.2.2.2.2.2.2.1, r.2.2.2.2.2.2.2.1, r.2.2.2.2.2.2.2.2.1, r.2.2.2.2.2.2.2.2.2.1, h, nI cz, x)) := hD
                  refine lv_aload_n hx hb dX7_runChain_95 rfl (lv_at hl 3 rfl) ?_
                  refine va_get (D := G.1) (ci := 7) (v := .ref (ad (o+8))) (C := RX7) (T := TX7) (N := 13) hx hb hts hiX7 hown hY.1 hP 0 rfl rfl 10 (by decide) kf39 (fun _ h9 => h9) rfl dX7_runChain_96 ?_
                  refine lv_aload_n hx hb dX7_runChain_99 rfl (lv_at hl 3 rfl) ?_
                  refine va_get (D := G.1) (ci := 7) (v := .int (nI cz)) (C := RX7) (T := TX7) (N := 13) hx hb hts hiX7 hown hY.1 hP 0 rfl rfl 11 (by decide) kf113 (fun _ h9 => h9) rfl dX7_runChain_100 ?_
                  refine lv_iload_n hx hb dX7_runChain_103 rfl (lv_at hl 2 rfl) ?_
                  refine va_iast hx hb hY.1 hP hD hS 8 0 rfl rfl (vp_nI (by have := (rc_le hmm hm3 (Nat.le_trans hn1.2.1 (Nat.succ_le_succ hm3)) h19_1); omega) (by decide)) dX7_runChain_104 (fun H locs hP hD hS => ?_)
                  have hP : va_P G.1 vwCl (wMo G ad o (r.1, r.2.1, r.2.2.1, r.2.2.2.1, r.2.2.2.2.1, r.2.2.2.2.2.1, r.2.2.2.2.2.2.1, r.2.2.2.2.2.2.2.1, r.2.2.2.2.2.2.2.2.1, r.2.2.2.2.2.2.2.2.2.1, upd h (nI cz).toNatClampNeg (nI n), nI cz, x)) H := hP
                  have hD : va_D A (wMo G ad o (r.1, r.2.1, r.2.2.1, r.2.2.2.1, r.2.2.2.2.1, r.2.2.2.2.2.1, r.2.2.2.2.2.2.1, r.2.2.2.2.2.2.2.1, r.2.2.2.2.2.2.2.2.1, r.2.2.2.2.2.2.2.2.2.1, upd h (nI cz).toNatClampNeg (nI n), nI cz, x)) := hD
                  refine lv_aload_n hx hb dX7_runChain_105 rfl (lv_at hl 3 rfl) ?_
                  refine lv_dup hx hb dX7_runChain_106 rfl ?_
                  refine va_get (D := G.1) (ci := 7) (v := .int (nI cz)) (C := RX7) (T := TX7) (N := 13) hx hb hts hiX7 hown hY.1 hP 0 rfl rfl 11 (by decide) kf113 (fun _ h9 => h9) rfl dX7_runChain_107 ?_
                  refine lv_iconst (v := 1) hx hb dX7_runChain_110 (by decide) ?_
                  refine lv_iadd hx hb dX7_runChain_111 ?_
                  rw [show (nI cz) + 1 = nI (cz + 1) from (nI_succ cz).symm]
                  refine va_put (D := G.1) (ci := 7) (v := .int (nI (cz + 1))) (ty := .int) (C := RX7) (T := TX7) (N := 13) hx hb hts hiX7 tyX7 tyX7_ok nmX7 hown hY.1 hP hD hS 0 rfl rfl 11 (by decide) kf113 (fun _ h9 => h9) rfl (by decide +kernel) rfl rfl (Nat.le_of_ble_eq_true rfl) dX7_runChain_112 (fun H locs hP hD hS => ?_)
                  have hP : va_P G.1 vwCl (wMo G ad o (r.1, r.2.1, r.2.2.1, r.2.2.2.1, r.2.2.2.2.1, r.2.2.2.2.2.1, r.2.2.2.2.2.2.1, r.2.2.2.2.2.2.2.1, r.2.2.2.2.2.2.2.2.1, r.2.2.2.2.2.2.2.2.2.1, upd h (nI cz).toNatClampNeg (nI n), nI (cz + 1), x)) H := hP
                  have hD : va_D A (wMo G ad o (r.1, r.2.1, r.2.2.1, r.2.2.2.1, r.2.2.2.2.1, r.2.2.2.2.2.1, r.2.2.2.2.2.2.1, r.2.2.2.2.2.2.2.1, r.2.2.2.2.2.2.2.2.1, r.2.2.2.2.2.2.2.2.2.1, upd h (nI cz).toNatClampNeg (nI n), nI (cz + 1), x)) := hD
                  refine lv_aload_n hx hb dX7_runChain_115 rfl (lv_at hl 3 rfl) ?_
                  refine lv_iload_n hx hb dX7_runChain_116 rfl (lv_at hl 2 rfl) ?_
                  refine lv_iconst (v := 1) hx hb dX7_runChain_117 (by decide) ?_
                  refine lv_iadd hx hb dX7_runChain_118 ?_
                  refine lv_aload_n hx hb dX7_runChain_119 rfl (lv_at hl 3 rfl) ?_
                  refine va_get (D := G.1) (ci := 7) (v := .ref (ad (o+6))) (C := RX7) (T := TX7) (N := 13) hx hb hts hiX7 hown hY.1 hP 0 rfl rfl 8 (by decide) kf32 (fun _ h9 => h9) rfl dX7_runChain_120 ?_
                  refine lv_iload_n hx hb dX7_runChain_123 rfl (lv_at hl 1 rfl) ?_
                  refine va_iald hx hb hY.1 hP 6 0 rfl rfl (hBn n hn1.1 (rc_le hmm hm3 (Nat.le_trans hn1.2.1 (Nat.succ_le_succ hm3)) h19_1)) dX7_runChain_124 ?_
                  refine lv_aload_n hx hb dX7_runChain_125 rfl (lv_at hl 3 rfl) ?_
                  refine va_get (D := G.1) (ci := 7) (v := .int r.2.2.1) (C := RX7) (T := TX7) (N := 13) hx hb hts hiX7 hown hY.1 hP 0 rfl rfl 2 (by decide) kf13 (fun _ h9 => h9) rfl dX7_runChain_126 ?_
                  refine lv_irem hx hb dX7_runChain_129 hw ?_
                  refine lv_iadd hx hb dX7_runChain_130 ?_
                  refine va_put (D := G.1) (ci := 7) (v := .int (((nI n) + 1) + ((r.2.2.2.2.2.2.2.2.1 (((300 * st) + (nI n)) - 1).toNatClampNeg) - (r.2.2.2.2.2.2.2.2.1 (((300 * st) + (nI n)) - 1).toNatClampNeg) / r.2.2.1 * r.2.2.1))) (ty := .int) (C := RX7) (T := TX7) (N := 13) hx hb hts hiX7 tyX7 tyX7_ok nmX7 hown hY.1 hP hD hS 0 rfl rfl 12 (by decide) kf116 (fun _ h9 => h9) rfl (by decide +kernel) rfl rfl (Nat.le_of_ble_eq_true rfl) dX7_runChain_131 (fun H locs hP hD hS => ?_)
                  have hP : va_P G.1 vwCl (wMo G ad o (r.1, r.2.1, r.2.2.1, r.2.2.2.1, r.2.2.2.2.1, r.2.2.2.2.2.1, r.2.2.2.2.2.2.1, r.2.2.2.2.2.2.2.1, r.2.2.2.2.2.2.2.2.1, r.2.2.2.2.2.2.2.2.2.1, upd h (nI cz).toNatClampNeg (nI n), nI (cz + 1), ((nI n) + 1) + ((r.2.2.2.2.2.2.2.2.1 (((300 * st) + (nI n)) - 1).toNatClampNeg) - (r.2.2.2.2.2.2.2.2.1 (((300 * st) + (nI n)) - 1).toNatClampNeg) / r.2.2.1 * r.2.2.1))) H := hP
                  have hD : va_D A (wMo G ad o (r.1, r.2.1, r.2.2.1, r.2.2.2.1, r.2.2.2.2.1, r.2.2.2.2.2.1, r.2.2.2.2.2.2.1, r.2.2.2.2.2.2.2.1, r.2.2.2.2.2.2.2.2.1, r.2.2.2.2.2.2.2.2.2.1, upd h (nI cz).toNatClampNeg (nI n), nI (cz + 1), ((nI n) + 1) + ((r.2.2.2.2.2.2.2.2.1 (((300 * st) + (nI n)) - 1).toNatClampNeg) - (r.2.2.2.2.2.2.2.2.1 (((300 * st) + (nI n)) - 1).toNatClampNeg) / r.2.2.1 * r.2.2.1))) := hD
                  have loop4 : ∀ (fu4 : Nat) (cw : Nat) (hw9 : Nat → Int32), cw < fu4 → mChW r.2.2.1 n fu4 cw hw9 = mChW r.2.2.1 n ((cz + 1) + 1) (cz + 1) (upd h (nI cz).toNatClampNeg (nI n)) → cw ≤ 300 → mWt r.2.2.1 n cw hw9 → ∀ (H : Heap) (locs : List Loc) (ls : Array Slot), va_P G.1 vwCl (wMo G ad o (r.1, r.2.1, r.2.2.1, r.2.2.2.1, r.2.2.2.2.1, r.2.2.2.2.2.1, r.2.2.2.2.2.2.1, r.2.2.2.2.2.2.2.1, r.2.2.2.2.2.2.2.2.1, r.2.2.2.2.2.2.2.2.2.1, hw9, nI cw, ((nI n) + 1) + ((r.2.2.2.2.2.2.2.2.1 (((300 * st) + (nI n)) - 1).toNatClampNeg) - (r.2.2.2.2.2.2.2.2.1 (((300 * st) + (nI n)) - 1).toNatClampNeg) / r.2.2.1 * r.2.2.1))) H → va_D A (wMo G ad o (r.1, r.2.1, r.2.2.1, r.2.2.2.1, r.2.2.2.2.1, r.2.2.2.2.2.1, r.2.2.2.2.2.2.1, r.2.2.2.2.2.2.2.1, r.2.2.2.2.2.2.2.2.1, r.2.2.2.2.2.2.2.2.2.1, hw9, nI cw, ((nI n) + 1) + ((r.2.2.2.2.2.2.2.2.1 (((300 * st) + (nI n)) - 1).toNatClampNeg) - (r.2.2.2.2.2.2.2.2.1 (((300 * st) + (nI n)) - 1).toNatClampNeg) / r.2.2.1 * r.2.2.1))) → va_S A s.heap H locs → lv_has ls 6 [(4, .int 0), (3, .int (((300 * st) + (nI n)) - 1)), (2, .int (nI n)), (0, .ref (ad o)), (1, .int st)] → W p l e (headSpec wsX7_runChain { frames := 0, cells := 0, slots := 0, locals := 0 }).room s m ([.ref (ad o), .int st] : List Value).toArray below meth c H locs 0 0 (MQ below (WQ none G (wMo G ad o (r.1, r.2.1, r.2.2.1, r.2.2.2.1, r.2.2.2.2.1, r.2.2.2.2.2.1, r.2.2.2.2.2.2.1, r.2.2.2.2.2.2.2.1, r.2.2.2.2.2.2.2.2.1, r.2.2.2.2.2.2.2.2.2.1, (mRcL r.2.2.1 r.2.2.2.2.2.2.2.1 r.2.2.2.2.2.2.2.2.1 st (r.2.2.2.1 st.toNatClampNeg) (301 - 1 + 1) 1 0 0 r.2.2.2.2.2.2.2.2.2.2.1).2.2, nI (mRcL r.2.2.1 r.2.2.2.2.2.2.2.1 r.2.2.2.2.2.2.2.2.1 st (r.2.2.2.1 st.toNatClampNeg) (301 - 1 + 1) 1 0 0 r.2.2.2.2.2.2.2.2.2.2.1).1, (mRcL r.2.2.1 r.2.2.2.2.2.2.2.1 r.2.2.2.2.2.2.2.2.1 st (r.2.2.2.1 st.toNatClampNeg) (301 - 1 + 1) 1 0 0 r.2.2.2.2.2.2.2.2.2.2.1).2.1)) A) ([.ref (ad o), .int st] : List Value).toArray s 0 0 A) (F0 m 134 ls []) := by
                    intro fu4
                    induction fu4 with
                    | zero => intro cw hw9 hm; exact absurd hm (Nat.not_lt_zero _)
                    | succ fu4 ih4 =>
                      intro cw hw9 hm4 hR4 hc9 hwt H locs ls hP hD hS hl
                      refine lv_aload_n hx hb dX7_runChain_134 rfl (lv_at hl 3 rfl) ?_
                      refine va_get (D := G.1) (ci := 7) (v := .ref (ad (o+8))) (C := RX7) (T := TX7) (N := 13) hx hb hts hiX7 hown hY.1 hP 0 rfl rfl 10 (by decide) kf39 (fun _ h9 => h9) rfl dX7_runChain_135 ?_
                      refine lv_iconst (v := 0) hx hb dX7_runChain_138 (by decide) ?_
                      refine va_iald hx hb hY.1 hP 8 0 rfl rfl vp_0_300 dX7_runChain_139 ?_
                      refine lv_iload_n hx hb dX7_runChain_140 rfl (lv_at hl 2 rfl) ?_
                      refine lv_aload_n hx hb dX7_runChain_141 rfl (lv_at hl 3 rfl) ?_
                      refine va_get (D := G.1) (ci := 7) (v := .int r.2.2.1) (C := RX7) (T := TX7) (N := 13) hx hb hts hiX7 hown hY.1 hP 0 rfl rfl 2 (by decide) kf13 (fun _ h9 => h9) rfl dX7_runChain_142 ?_
                      refine lv_isub hx hb dX7_runChain_145 ?_
                      refine lv_icmp_gt (tgt := 196) hx hb dX7_runChain_146 (by decide) (fun h146_9 => ?_) (fun h146_9 => ?_)
                      · have hOcw : cw = (mChW r.2.2.1 n ((cz + 1) + 1) (cz + 1) (upd h (nI cz).toNatClampNeg (nI n))).1 := by rw [← hR4]; simp only [mChW, h146_9, ↓reduceIte]
                        have hOhw9 : hw9 = (mChW r.2.2.1 n ((cz + 1) + 1) (cz + 1) (upd h (nI cz).toNatClampNeg (nI n))).2 := by rw [← hR4]; simp only [mChW, h146_9, ↓reduceIte]
                        subst hOcw
                        subst hOhw9
                        refine lv_iinc (v := (nI n) + 1) (lv' := [(2, .int ((nI n) + 1)), (4, .int 0), (3, .int (((300 * st) + (nI n)) - 1)), (0, .ref (ad o)), (1, .int st)]) hx hb dX7_runChain_196 hl (k := 2) rfl rfl (by decide) rfl (fun ls hl => ?_)
                        rw [show (nI n) + 1 = nI (n+1) from (nI_succ n).symm] at hl
                        refine lv_goto (tgt := 12) hx hb dX7_runChain_199 (by decide) ?_
                        exact ih (n+1) ((mChW r.2.2.1 n ((cz + 1) + 1) (cz + 1) (upd h (nI cz).toNatClampNeg (nI n))).1) (((nI n) + 1) + ((r.2.2.2.2.2.2.2.2.1 (((300 * st) + (nI n)) - 1).toNatClampNeg) - (r.2.2.2.2.2.2.2.2.1 (((300 * st) + (nI n)) - 1).toNatClampNeg) / r.2.2.1 * r.2.2.1)) ((mChW r.2.2.1 n ((cz + 1) + 1) (cz + 1) (upd h (nI cz).toNatClampNeg (nI n))).2) (by have := (rc_le hmm hm3 (Nat.le_trans hn1.2.1 (Nat.succ_le_succ hm3)) h19_1); omega) (by rw [← hR1]; simp only [mRcL, h19_1, h43_2, h55_3, eq_true h67_4, eq_true h75_5, eq_true h81_8, ↓reduceIte]) ⟨by omega, Nat.succ_le_succ (rc_le hmm hm3 (Nat.le_trans hn1.2.1 (Nat.succ_le_succ hm3)) h19_1), Nat.lt_succ_of_le (Nat.le_trans mChW_le (by omega))⟩ (by have q := hT2; simp only [mRcT, h19_1, h43_2, h55_3, eq_true h67_4, eq_true h75_5, eq_true h81_8, ↓reduceIte] at q; exact q.2) _ _ ls hP hD hS (lv_sub hl [0, 3, 4] rfl)
                      · refine lv_aload_n hx hb dX7_runChain_149 rfl (lv_at hl 3 rfl) ?_
                        refine lv_dup hx hb dX7_runChain_150 rfl ?_
                        refine va_get (D := G.1) (ci := 7) (v := .int (nI cw)) (C := RX7) (T := TX7) (N := 13) hx hb hts hiX7 hown hY.1 hP 0 rfl rfl 11 (by decide) kf113 (fun _ h9 => h9) rfl dX7_runChain_151 ?_
                        refine lv_iconst (v := 1) hx hb dX7_runChain_154 (by decide) ?_
                        refine lv_isub hx hb dX7_runChain_155 ?_
                        rw [show (nI cw) - 1 = nI (cw - 1) from nI_m1 (mWt_go hwt h146_9).1]
                        refine va_put (D := G.1) (ci := 7) (v := .int (nI (cw - 1))) (ty := .int) (C := RX7) (T := TX7) (N := 13) hx hb hts hiX7 tyX7 tyX7_ok nmX7 hown hY.1 hP hD hS 0 rfl rfl 11 (by decide) kf113 (fun _ h9 => h9) rfl (by decide +kernel) rfl rfl (Nat.le_of_ble_eq_true rfl) dX7_runChain_156 (fun H locs hP hD hS => ?_)
                        have hP : va_P G.1 vwCl (wMo G ad o (r.1, r.2.1, r.2.2.1, r.2.2.2.1, r.2.2.2.2.1, r.2.2.2.2.2.1, r.2.2.2.2.2.2.1, r.2.2.2.2.2.2.2.1, r.2.2.2.2.2.2.2.2.1, r.2.2.2.2.2.2.2.2.2.1, hw9, nI (cw - 1), ((nI n) + 1) + ((r.2.2.2.2.2.2.2.2.1 (((300 * st) + (nI n)) - 1).toNatClampNeg) - (r.2.2.2.2.2.2.2.2.1 (((300 * st) + (nI n)) - 1).toNatClampNeg) / r.2.2.1 * r.2.2.1))) H := hP
                        have hD : va_D A (wMo G ad o (r.1, r.2.1, r.2.2.1, r.2.2.2.1, r.2.2.2.2.1, r.2.2.2.2.2.1, r.2.2.2.2.2.2.1, r.2.2.2.2.2.2.2.1, r.2.2.2.2.2.2.2.2.1, r.2.2.2.2.2.2.2.2.2.1, hw9, nI (cw - 1), ((nI n) + 1) + ((r.2.2.2.2.2.2.2.2.1 (((300 * st) + (nI n)) - 1).toNatClampNeg) - (r.2.2.2.2.2.2.2.2.1 (((300 * st) + (nI n)) - 1).toNatClampNeg) / r.2.2.1 * r.2.2.1))) := hD
                        refine lv_iconst (v := 0) hx hb dX7_runChain_159 (by decide) ?_
                        refine lv_istore (lv' := [(5, .int 0), (4, .int 0), (3, .int (((300 * st) + (nI n)) - 1)), (2, .int (nI n)), (0, .ref (ad o)), (1, .int st)]) hx hb dX7_runChain_160 hl (by decide) rfl (fun ls hl => ?_)
                        have loop5 : ∀ (fu5 : Nat) (j : Nat) (v : Nat → Int32), cw - 1 - j < fu5 → mShL (cw - 1) fu5 j v = mShL (cw - 1) (cw - 1 - 0 + 1) 0 hw9 → j ≤ cw - 1 → ∀ (H : Heap) (locs : List Loc) (ls : Array Slot), va_P G.1 vwCl (wMo G ad o (r.1, r.2.1, r.2.2.1, r.2.2.2.1, r.2.2.2.2.1, r.2.2.2.2.2.1, r.2.2.2.2.2.2.1, r.2.2.2.2.2.2.2.1, r.2.2.2.2.2.2.2.2.1, r.2.2.2.2.2.2.2.2.2.1, v, nI (cw - 1), ((nI n) + 1) + ((r.2.2.2.2.2.2.2.2.1 (((300 * st) + (nI n)) - 1).toNatClampNeg) - (r.2.2.2.2.2.2.2.2.1 (((300 * st) + (nI n)) - 1).toNatClampNeg) / r.2.2.1 * r.2.2.1))) H → va_D A (wMo G ad o (r.1, r.2.1, r.2.2.1, r.2.2.2.1, r.2.2.2.2.1, r.2.2.2.2.2.1, r.2.2.2.2.2.2.1, r.2.2.2.2.2.2.2.1, r.2.2.2.2.2.2.2.2.1, r.2.2.2.2.2.2.2.2.2.1, v, nI (cw - 1), ((nI n) + 1) + ((r.2.2.2.2.2.2.2.2.1 (((300 * st) + (nI n)) - 1).toNatClampNeg) - (r.2.2.2.2.2.2.2.2.1 (((300 * st) + (nI n)) - 1).toNatClampNeg) / r.2.2.1 * r.2.2.1))) → va_S A s.heap H locs → lv_has ls 6 [(5, .int (nI j)), (4, .int 0), (3, .int (((300 * st) + (nI n)) - 1)), (2, .int (nI n)), (0, .ref (ad o)), (1, .int st)] → W p l e (headSpec wsX7_runChain { frames := 0, cells := 0, slots := 0, locals := 0 }).room s m ([.ref (ad o), .int st] : List Value).toArray below meth c H locs 0 0 (MQ below (WQ none G (wMo G ad o (r.1, r.2.1, r.2.2.1, r.2.2.2.1, r.2.2.2.2.1, r.2.2.2.2.2.1, r.2.2.2.2.2.2.1, r.2.2.2.2.2.2.2.1, r.2.2.2.2.2.2.2.2.1, r.2.2.2.2.2.2.2.2.2.1, (mRcL r.2.2.1 r.2.2.2.2.2.2.2.1 r.2.2.2.2.2.2.2.2.1 st (r.2.2.2.1 st.toNatClampNeg) (301 - 1 + 1) 1 0 0 r.2.2.2.2.2.2.2.2.2.2.1).2.2, nI (mRcL r.2.2.1 r.2.2.2.2.2.2.2.1 r.2.2.2.2.2.2.2.2.1 st (r.2.2.2.1 st.toNatClampNeg) (301 - 1 + 1) 1 0 0 r.2.2.2.2.2.2.2.2.2.2.1).1, (mRcL r.2.2.1 r.2.2.2.2.2.2.2.1 r.2.2.2.2.2.2.2.2.1 st (r.2.2.2.1 st.toNatClampNeg) (301 - 1 + 1) 1 0 0 r.2.2.2.2.2.2.2.2.2.2.1).2.1)) A) ([.ref (ad o), .int st] : List Value).toArray s 0 0 A) (F0 m 162 ls []) := by
                          intro fu5
                          induction fu5 with
                          | zero => intro j v hm; exact absurd hm (Nat.not_lt_zero _)
                          | succ fu5 ih5 =>
                            intro j v hm5 hR5 hj9 H locs ls hP hD hS hl
                            refine lv_iload hx hb dX7_runChain_162 (lv_at hl 0 rfl) ?_
                            refine lv_aload_n hx hb dX7_runChain_164 rfl (lv_at hl 4 rfl) ?_
                            refine va_get (D := G.1) (ci := 7) (v := .int (nI (cw - 1))) (C := RX7) (T := TX7) (N := 13) hx hb hts hiX7 hown hY.1 hP 0 rfl rfl 11 (by decide) kf113 (fun _ h9 => h9) rfl dX7_runChain_165 ?_
                            refine lv_icmp_ge (tgt := 193) hx hb dX7_runChain_168 (by decide) (fun h168_10 => ?_) (fun h168_10 => ?_)
                            · obtain rfl : v = (mShL (cw - 1) (cw - 1 - 0 + 1) 0 hw9) := by rw [← hR5]; simp only [mShL, h168_10, ↓reduceIte]
                              refine lv_goto (tgt := 134) hx hb dX7_runChain_193 (by decide) ?_
                              exact ih4 (cw - 1) ((mShL (cw - 1) (cw - 1 - 0 + 1) 0 hw9)) (by have := (mWt_go hwt h146_9).1; omega) (by rw [← hR4]; simp only [mChW, h146_9, ↓reduceIte]) (by have := (mWt_go hwt h146_9).1; omega) (mWt_go hwt h146_9).2 _ _ ls hP hD hS (lv_sub hl [1, 2, 3, 4, 5] rfl)
                            · refine lv_aload_n hx hb dX7_runChain_171 rfl (lv_at hl 4 rfl) ?_
                              refine va_get (D := G.1) (ci := 7) (v := .ref (ad (o+8))) (C := RX7) (T := TX7) (N := 13) hx hb hts hiX7 hown hY.1 hP 0 rfl rfl 10 (by decide) kf39 (fun _ h9 => h9) rfl dX7_runChain_172 ?_
                              refine lv_iload hx hb dX7_runChain_175 (lv_at hl 0 rfl) ?_
                              refine lv_aload_n hx hb dX7_runChain_177 rfl (lv_at hl 4 rfl) ?_
                              refine va_get (D := G.1) (ci := 7) (v := .ref (ad (o+8))) (C := RX7) (T := TX7) (N := 13) hx hb hts hiX7 hown hY.1 hP 0 rfl rfl 10 (by decide) kf39 (fun _ h9 => h9) rfl dX7_runChain_178 ?_
                              refine lv_iload hx hb dX7_runChain_181 (lv_at hl 0 rfl) ?_
                              refine lv_iconst (v := 1) hx hb dX7_runChain_183 (by decide) ?_
                              refine lv_iadd hx hb dX7_runChain_184 ?_
                              refine va_iald hx hb hY.1 hP 8 0 rfl rfl (by rw [← nI_succ]; exact vp_nI (by have := (sh_lt (by omega) hj9 h168_10); omega) (by decide)) dX7_runChain_185 ?_
                              refine va_iast hx hb hY.1 hP hD hS 8 0 rfl rfl (vp_nI (by have := (sh_lt (by omega) hj9 h168_10); omega) (by decide)) dX7_runChain_186 (fun H locs hP hD hS => ?_)
                              have hP : va_P G.1 vwCl (wMo G ad o (r.1, r.2.1, r.2.2.1, r.2.2.2.1, r.2.2.2.2.1, r.2.2.2.2.2.1, r.2.2.2.2.2.2.1, r.2.2.2.2.2.2.2.1, r.2.2.2.2.2.2.2.2.1, r.2.2.2.2.2.2.2.2.2.1, upd v (nI j).toNatClampNeg (v ((nI j) + 1).toNatClampNeg), nI (cw - 1), ((nI n) + 1) + ((r.2.2.2.2.2.2.2.2.1 (((300 * st) + (nI n)) - 1).toNatClampNeg) - (r.2.2.2.2.2.2.2.2.1 (((300 * st) + (nI n)) - 1).toNatClampNeg) / r.2.2.1 * r.2.2.1))) H := hP
                              have hD : va_D A (wMo G ad o (r.1, r.2.1, r.2.2.1, r.2.2.2.1, r.2.2.2.2.1, r.2.2.2.2.2.1, r.2.2.2.2.2.2.1, r.2.2.2.2.2.2.2.1, r.2.2.2.2.2.2.2.2.1, r.2.2.2.2.2.2.2.2.2.1, upd v (nI j).toNatClampNeg (v ((nI j) + 1).toNatClampNeg), nI (cw - 1), ((nI n) + 1) + ((r.2.2.2.2.2.2.2.2.1 (((300 * st) + (nI n)) - 1).toNatClampNeg) - (r.2.2.2.2.2.2.2.2.1 (((300 * st) + (nI n)) - 1).toNatClampNeg) / r.2.2.1 * r.2.2.1))) := hD
                              refine lv_iinc (v := (nI j) + 1) (lv' := [(5, .int ((nI j) + 1)), (4, .int 0), (3, .int (((300 * st) + (nI n)) - 1)), (2, .int (nI n)), (0, .ref (ad o)), (1, .int st)]) hx hb dX7_runChain_187 hl (k := 0) rfl rfl (by decide) rfl (fun ls hl => ?_)
                              rw [show (nI j) + 1 = nI (j+1) from (nI_succ j).symm] at hl
                              refine lv_goto (tgt := 162) hx hb dX7_runChain_190 (by decide) ?_
                              exact ih5 (j+1) (upd v (nI j).toNatClampNeg (v ((nI j) + 1).toNatClampNeg)) (by have := (sh_lt (by omega) hj9 h168_10); omega) (by rw [← hR5]; simp only [mShL, h168_10, ↓reduceIte]) (sh_lt (by omega) hj9 h168_10) _ _ ls hP hD hS (lv_sub hl [0, 1, 2, 3, 4, 5] rfl)
                        exact loop5 (cw - 1 - 0 + 1) 0 hw9 (Nat.lt_succ_self _) rfl (Nat.zero_le _) _ _ ls hP hD hS (lv_sub hl [0, 1, 2, 3, 4, 5] rfl)
                  exact loop4 ((cz + 1) + 1) (cz + 1) (upd h (nI cz).toNatClampNeg (nI n)) (Nat.lt_succ_self _) rfl (by have := (rc_le hmm hm3 (Nat.le_trans hn1.2.1 (Nat.succ_le_succ hm3)) h19_1); omega) (by have q := hT2; simp only [mRcT, h19_1, h43_2, h55_3, eq_true h67_4, eq_true h75_5, eq_true h81_8, ↓reduceIte] at q; exact q.1) _ _ ls hP hD hS (lv_sub hl [0, 1, 2, 3, 4] rfl)
                · exact absurd rfl h81_8
          · refine lv_iconst (v := 1) hx hb dX7_runChain_58 (by decide) ?_
            refine lv_goto (tgt := 63) hx hb dX7_runChain_59 (by decide) ?_
            refine lv_istore (lv' := [(4, .int 1), (3, .int (((300 * st) + (nI n)) - 1)), (2, .int (nI n)), (0, .ref (ad o)), (1, .int st)]) hx hb dX7_runChain_63 hl (by decide) rfl (fun ls hl => ?_)
            refine lv_iload hx hb dX7_runChain_65 (lv_at hl 0 rfl) ?_
            refine lv_if_ne (tgt := 78) hx hb dX7_runChain_67 (by decide) (fun h67_11 => ?_) (fun h67_11 => ?_)
            · refine lv_aload_n hx hb dX7_runChain_78 rfl (lv_at hl 3 rfl) ?_
              refine lv_iload hx hb dX7_runChain_79 (lv_at hl 0 rfl) ?_
              refine lv_if_eq (tgt := 88) hx hb dX7_runChain_81 (by decide) (fun h81_12 => ?_) (fun h81_12 => ?_)
              · exact absurd h81_12 (by decide)
              · refine lv_iconst (v := 0) hx hb dX7_runChain_84 (by decide) ?_
                refine lv_goto (tgt := 92) hx hb dX7_runChain_85 (by decide) ?_
                refine va_put (D := G.1) (ci := 7) (v := .int 0) (ty := .int) (C := RX7) (T := TX7) (N := 13) hx hb hts hiX7 tyX7 tyX7_ok nmX7 hown hY.1 hP hD hS 0 rfl rfl 11 (by decide) kf113 (fun _ h9 => h9) rfl (by decide +kernel) rfl rfl (Nat.le_of_ble_eq_true rfl) dX7_runChain_92 (fun H locs hP hD hS => ?_)
                have hP : va_P G.1 vwCl (wMo G ad o (r.1, r.2.1, r.2.2.1, r.2.2.2.1, r.2.2.2.2.1, r.2.2.2.2.2.1, r.2.2.2.2.2.2.1, r.2.2.2.2.2.2.2.1, r.2.2.2.2.2.2.2.2.1, r.2.2.2.2.2.2.2.2.2.1, h, 0, x)) H := hP
                have hD : va_D A (wMo G ad o (r.1, r.2.1, r.2.2.1, r.2.2.2.1, r.2.2.2.2.1, r.2.2.2.2.2.1, r.2.2.2.2.2.2.1, r.2.2.2.2.2.2.2.1, r.2.2.2.2.2.2.2.2.1, r.2.2.2.2.2.2.2.2.2.1, h, 0, x)) := hD
                refine lv_aload_n hx hb dX7_runChain_95 rfl (lv_at hl 3 rfl) ?_
                refine va_get (D := G.1) (ci := 7) (v := .ref (ad (o+8))) (C := RX7) (T := TX7) (N := 13) hx hb hts hiX7 hown hY.1 hP 0 rfl rfl 10 (by decide) kf39 (fun _ h9 => h9) rfl dX7_runChain_96 ?_
                refine lv_aload_n hx hb dX7_runChain_99 rfl (lv_at hl 3 rfl) ?_
                refine va_get (D := G.1) (ci := 7) (v := .int 0) (C := RX7) (T := TX7) (N := 13) hx hb hts hiX7 hown hY.1 hP 0 rfl rfl 11 (by decide) kf113 (fun _ h9 => h9) rfl dX7_runChain_100 ?_
                refine lv_iload_n hx hb dX7_runChain_103 rfl (lv_at hl 2 rfl) ?_
                refine va_iast hx hb hY.1 hP hD hS 8 0 rfl rfl vp_0_300 dX7_runChain_104 (fun H locs hP hD hS => ?_)
                have hP : va_P G.1 vwCl (wMo G ad o (r.1, r.2.1, r.2.2.1, r.2.2.2.1, r.2.2.2.2.1, r.2.2.2.2.2.1, r.2.2.2.2.2.2.1, r.2.2.2.2.2.2.2.1, r.2.2.2.2.2.2.2.2.1, r.2.2.2.2.2.2.2.2.2.1, upd h (0 : Int32).toNatClampNeg (nI n), 0, x)) H := hP
                have hD : va_D A (wMo G ad o (r.1, r.2.1, r.2.2.1, r.2.2.2.1, r.2.2.2.2.1, r.2.2.2.2.2.1, r.2.2.2.2.2.2.1, r.2.2.2.2.2.2.2.1, r.2.2.2.2.2.2.2.2.1, r.2.2.2.2.2.2.2.2.2.1, upd h (0 : Int32).toNatClampNeg (nI n), 0, x)) := hD
                refine lv_aload_n hx hb dX7_runChain_105 rfl (lv_at hl 3 rfl) ?_
                refine lv_dup hx hb dX7_runChain_106 rfl ?_
                refine va_get (D := G.1) (ci := 7) (v := .int 0) (C := RX7) (T := TX7) (N := 13) hx hb hts hiX7 hown hY.1 hP 0 rfl rfl 11 (by decide) kf113 (fun _ h9 => h9) rfl dX7_runChain_107 ?_
                refine lv_iconst (v := 1) hx hb dX7_runChain_110 (by decide) ?_
                refine lv_iadd hx hb dX7_runChain_111 ?_
                rw [show 0 + 1 = nI 1 from rfl]
                refine va_put (D := G.1) (ci := 7) (v := .int (nI 1)) (ty := .int) (C := RX7) (T := TX7) (N := 13) hx hb hts hiX7 tyX7 tyX7_ok nmX7 hown hY.1 hP hD hS 0 rfl rfl 11 (by decide) kf113 (fun _ h9 => h9) rfl (by decide +kernel) rfl rfl (Nat.le_of_ble_eq_true rfl) dX7_runChain_112 (fun H locs hP hD hS => ?_)
                have hP : va_P G.1 vwCl (wMo G ad o (r.1, r.2.1, r.2.2.1, r.2.2.2.1, r.2.2.2.2.1, r.2.2.2.2.2.1, r.2.2.2.2.2.2.1, r.2.2.2.2.2.2.2.1, r.2.2.2.2.2.2.2.2.1, r.2.2.2.2.2.2.2.2.2.1, upd h (0 : Int32).toNatClampNeg (nI n), nI 1, x)) H := hP
                have hD : va_D A (wMo G ad o (r.1, r.2.1, r.2.2.1, r.2.2.2.1, r.2.2.2.2.1, r.2.2.2.2.2.1, r.2.2.2.2.2.2.1, r.2.2.2.2.2.2.2.1, r.2.2.2.2.2.2.2.2.1, r.2.2.2.2.2.2.2.2.2.1, upd h (0 : Int32).toNatClampNeg (nI n), nI 1, x)) := hD
                refine lv_aload_n hx hb dX7_runChain_115 rfl (lv_at hl 3 rfl) ?_
                refine lv_iload_n hx hb dX7_runChain_116 rfl (lv_at hl 2 rfl) ?_
                refine lv_iconst (v := 1) hx hb dX7_runChain_117 (by decide) ?_
                refine lv_iadd hx hb dX7_runChain_118 ?_
                refine lv_aload_n hx hb dX7_runChain_119 rfl (lv_at hl 3 rfl) ?_
                refine va_get (D := G.1) (ci := 7) (v := .ref (ad (o+6))) (C := RX7) (T := TX7) (N := 13) hx hb hts hiX7 hown hY.1 hP 0 rfl rfl 8 (by decide) kf32 (fun _ h9 => h9) rfl dX7_runChain_120 ?_
                refine lv_iload_n hx hb dX7_runChain_123 rfl (lv_at hl 1 rfl) ?_
                refine va_iald hx hb hY.1 hP 6 0 rfl rfl (hBn n hn1.1 (rc_le hmm hm3 (Nat.le_trans hn1.2.1 (Nat.succ_le_succ hm3)) h19_1)) dX7_runChain_124 ?_
                refine lv_aload_n hx hb dX7_runChain_125 rfl (lv_at hl 3 rfl) ?_
                refine va_get (D := G.1) (ci := 7) (v := .int r.2.2.1) (C := RX7) (T := TX7) (N := 13) hx hb hts hiX7 hown hY.1 hP 0 rfl rfl 2 (by decide) kf13 (fun _ h9 => h9) rfl dX7_runChain_126 ?_
                refine lv_irem hx hb dX7_runChain_129 hw ?_
                refine lv_iadd hx hb dX7_runChain_130 ?_
                refine va_put (D := G.1) (ci := 7) (v := .int (((nI n) + 1) + ((r.2.2.2.2.2.2.2.2.1 (((300 * st) + (nI n)) - 1).toNatClampNeg) - (r.2.2.2.2.2.2.2.2.1 (((300 * st) + (nI n)) - 1).toNatClampNeg) / r.2.2.1 * r.2.2.1))) (ty := .int) (C := RX7) (T := TX7) (N := 13) hx hb hts hiX7 tyX7 tyX7_ok nmX7 hown hY.1 hP hD hS 0 rfl rfl 12 (by decide) kf116 (fun _ h9 => h9) rfl (by decide +kernel) rfl rfl (Nat.le_of_ble_eq_true rfl) dX7_runChain_131 (fun H locs hP hD hS => ?_)
                have hP : va_P G.1 vwCl (wMo G ad o (r.1, r.2.1, r.2.2.1, r.2.2.2.1, r.2.2.2.2.1, r.2.2.2.2.2.1, r.2.2.2.2.2.2.1, r.2.2.2.2.2.2.2.1, r.2.2.2.2.2.2.2.2.1, r.2.2.2.2.2.2.2.2.2.1, upd h (0 : Int32).toNatClampNeg (nI n), nI 1, ((nI n) + 1) + ((r.2.2.2.2.2.2.2.2.1 (((300 * st) + (nI n)) - 1).toNatClampNeg) - (r.2.2.2.2.2.2.2.2.1 (((300 * st) + (nI n)) - 1).toNatClampNeg) / r.2.2.1 * r.2.2.1))) H := hP
                have hD : va_D A (wMo G ad o (r.1, r.2.1, r.2.2.1, r.2.2.2.1, r.2.2.2.2.1, r.2.2.2.2.2.1, r.2.2.2.2.2.2.1, r.2.2.2.2.2.2.2.1, r.2.2.2.2.2.2.2.2.1, r.2.2.2.2.2.2.2.2.2.1, upd h (0 : Int32).toNatClampNeg (nI n), nI 1, ((nI n) + 1) + ((r.2.2.2.2.2.2.2.2.1 (((300 * st) + (nI n)) - 1).toNatClampNeg) - (r.2.2.2.2.2.2.2.2.1 (((300 * st) + (nI n)) - 1).toNatClampNeg) / r.2.2.1 * r.2.2.1))) := hD
                have loop6 : ∀ (fu6 : Nat) (cw : Nat) (hw9 : Nat → Int32), cw < fu6 → mChW r.2.2.1 n fu6 cw hw9 = mChW r.2.2.1 n (1 + 1) 1 (upd h (0 : Int32).toNatClampNeg (nI n)) → cw ≤ 300 → mWt r.2.2.1 n cw hw9 → ∀ (H : Heap) (locs : List Loc) (ls : Array Slot), va_P G.1 vwCl (wMo G ad o (r.1, r.2.1, r.2.2.1, r.2.2.2.1, r.2.2.2.2.1, r.2.2.2.2.2.1, r.2.2.2.2.2.2.1, r.2.2.2.2.2.2.2.1, r.2.2.2.2.2.2.2.2.1, r.2.2.2.2.2.2.2.2.2.1, hw9, nI cw, ((nI n) + 1) + ((r.2.2.2.2.2.2.2.2.1 (((300 * st) + (nI n)) - 1).toNatClampNeg) - (r.2.2.2.2.2.2.2.2.1 (((300 * st) + (nI n)) - 1).toNatClampNeg) / r.2.2.1 * r.2.2.1))) H → va_D A (wMo G ad o (r.1, r.2.1, r.2.2.1, r.2.2.2.1, r.2.2.2.2.1, r.2.2.2.2.2.1, r.2.2.2.2.2.2.1, r.2.2.2.2.2.2.2.1, r.2.2.2.2.2.2.2.2.1, r.2.2.2.2.2.2.2.2.2.1, hw9, nI cw, ((nI n) + 1) + ((r.2.2.2.2.2.2.2.2.1 (((300 * st) + (nI n)) - 1).toNatClampNeg) - (r.2.2.2.2.2.2.2.2.1 (((300 * st) + (nI n)) - 1).toNatClampNeg) / r.2.2.1 * r.2.2.1))) → va_S A s.heap H locs → lv_has ls 6 [(4, .int 1), (3, .int (((300 * st) + (nI n)) - 1)), (2, .int (nI n)), (0, .ref (ad o)), (1, .int st)] → W p l e (headSpec wsX7_runChain { frames := 0, cells := 0, slots := 0, locals := 0 }).room s m ([.ref (ad o), .int st] : List Value).toArray below meth c H locs 0 0 (MQ below (WQ none G (wMo G ad o (r.1, r.2.1, r.2.2.1, r.2.2.2.1, r.2.2.2.2.1, r.2.2.2.2.2.1, r.2.2.2.2.2.2.1, r.2.2.2.2.2.2.2.1, r.2.2.2.2.2.2.2.2.1, r.2.2.2.2.2.2.2.2.2.1, (mRcL r.2.2.1 r.2.2.2.2.2.2.2.1 r.2.2.2.2.2.2.2.2.1 st (r.2.2.2.1 st.toNatClampNeg) (301 - 1 + 1) 1 0 0 r.2.2.2.2.2.2.2.2.2.2.1).2.2, nI (mRcL r.2.2.1 r.2.2.2.2.2.2.2.1 r.2.2.2.2.2.2.2.2.1 st (r.2.2.2.1 st.toNatClampNeg) (301 - 1 + 1) 1 0 0 r.2.2.2.2.2.2.2.2.2.2.1).1, (mRcL r.2.2.1 r.2.2.2.2.2.2.2.1 r.2.2.2.2.2.2.2.2.1 st (r.2.2.2.1 st.toNatClampNeg) (301 - 1 + 1) 1 0 0 r.2.2.2.2.2.2.2.2.2.2.1).2.1)) A) ([.ref (ad o), .int st] : List Value).toArray s 0 0 A) (F0 m 134 ls []) := by
                  intro fu6
                  induction fu6 with
                  | zero => intro cw hw9 hm; exact absurd hm (Nat.not_lt_zero _)
                  | succ fu6 ih6 =>
                    intro cw hw9 hm6 hR6 hc9 hwt H locs ls hP hD hS hl
                    refine lv_aload_n hx hb dX7_runChain_134 rfl (lv_at hl 3 rfl) ?_
                    refine va_get (D := G.1) (ci := 7) (v := .ref (ad (o+8))) (C := RX7) (T := TX7) (N := 13) hx hb hts hiX7 hown hY.1 hP 0 rfl rfl 10 (by decide) kf39 (fun _ h9 => h9) rfl dX7_runChain_135 ?_
                    refine lv_iconst (v := 0) hx hb dX7_runChain_138 (by decide) ?_
                    refine va_iald hx hb hY.1 hP 8 0 rfl rfl vp_0_300 dX7_runChain_139 ?_
                    refine lv_iload_n hx hb dX7_runChain_140 rfl (lv_at hl 2 rfl) ?_
                    refine lv_aload_n hx hb dX7_runChain_141 rfl (lv_at hl 3 rfl) ?_
                    refine va_get (D := G.1) (ci := 7) (v := .int r.2.2.1) (C := RX7) (T := TX7) (N := 13) hx hb hts hiX7 hown hY.1 hP 0 rfl rfl 2 (by decide) kf13 (fun _ h9 => h9) rfl dX7_runChain_142 ?_
                    refine lv_isub hx hb dX7_runChain_145 ?_
                    refine lv_icmp_gt (tgt := 196) hx hb dX7_runChain_146 (by decide) (fun h146_13 => ?_) (fun h146_13 => ?_)
                    · have hOcw : cw = (mChW r.2.2.1 n (1 + 1) 1 (upd h (0 : Int32).toNatClampNeg (nI n))).1 := by rw [← hR6]; simp only [mChW, h146_13, ↓reduceIte]
                      have hOhw9 : hw9 = (mChW r.2.2.1 n (1 + 1) 1 (upd h (0 : Int32).toNatClampNeg (nI n))).2 := by rw [← hR6]; simp only [mChW, h146_13, ↓reduceIte]
                      subst hOcw
                      subst hOhw9
                      refine lv_iinc (v := (nI n) + 1) (lv' := [(2, .int ((nI n) + 1)), (4, .int 1), (3, .int (((300 * st) + (nI n)) - 1)), (0, .ref (ad o)), (1, .int st)]) hx hb dX7_runChain_196 hl (k := 2) rfl rfl (by decide) rfl (fun ls hl => ?_)
                      rw [show (nI n) + 1 = nI (n+1) from (nI_succ n).symm] at hl
                      refine lv_goto (tgt := 12) hx hb dX7_runChain_199 (by decide) ?_
                      exact ih (n+1) ((mChW r.2.2.1 n (1 + 1) 1 (upd h (0 : Int32).toNatClampNeg (nI n))).1) (((nI n) + 1) + ((r.2.2.2.2.2.2.2.2.1 (((300 * st) + (nI n)) - 1).toNatClampNeg) - (r.2.2.2.2.2.2.2.2.1 (((300 * st) + (nI n)) - 1).toNatClampNeg) / r.2.2.1 * r.2.2.1)) ((mChW r.2.2.1 n (1 + 1) 1 (upd h (0 : Int32).toNatClampNeg (nI n))).2) (by have := (rc_le hmm hm3 (Nat.le_trans hn1.2.1 (Nat.succ_le_succ hm3)) h19_1); omega) (by rw [← hR1]; simp only [mRcL, h19_1, h43_2, eq_true h55_3, h67_11, h81_12, ↓reduceIte]) ⟨by omega, Nat.succ_le_succ (rc_le hmm hm3 (Nat.le_trans hn1.2.1 (Nat.succ_le_succ hm3)) h19_1), Nat.lt_succ_of_le (Nat.le_trans mChW_le (by omega))⟩ (by have q := hT2; simp only [mRcT, h19_1, h43_2, eq_true h55_3, h67_11, h81_12, ↓reduceIte] at q; exact q.2) _ _ ls hP hD hS (lv_sub hl [0, 3, 4] rfl)
                    · refine lv_aload_n hx hb dX7_runChain_149 rfl (lv_at hl 3 rfl) ?_
                      refine lv_dup hx hb dX7_runChain_150 rfl ?_
                      refine va_get (D := G.1) (ci := 7) (v := .int (nI cw)) (C := RX7) (T := TX7) (N := 13) hx hb hts hiX7 hown hY.1 hP 0 rfl rfl 11 (by decide) kf113 (fun _ h9 => h9) rfl dX7_runChain_151 ?_
                      refine lv_iconst (v := 1) hx hb dX7_runChain_154 (by decide) ?_
                      refine lv_isub hx hb dX7_runChain_155 ?_
                      rw [show (nI cw) - 1 = nI (cw - 1) from nI_m1 (mWt_go hwt h146_13).1]
                      refine va_put (D := G.1) (ci := 7) (v := .int (nI (cw - 1))) (ty := .int) (C := RX7) (T := TX7) (N := 13) hx hb hts hiX7 tyX7 tyX7_ok nmX7 hown hY.1 hP hD hS 0 rfl rfl 11 (by decide) kf113 (fun _ h9 => h9) rfl (by decide +kernel) rfl rfl (Nat.le_of_ble_eq_true rfl) dX7_runChain_156 (fun H locs hP hD hS => ?_)
                      have hP : va_P G.1 vwCl (wMo G ad o (r.1, r.2.1, r.2.2.1, r.2.2.2.1, r.2.2.2.2.1, r.2.2.2.2.2.1, r.2.2.2.2.2.2.1, r.2.2.2.2.2.2.2.1, r.2.2.2.2.2.2.2.2.1, r.2.2.2.2.2.2.2.2.2.1, hw9, nI (cw - 1), ((nI n) + 1) + ((r.2.2.2.2.2.2.2.2.1 (((300 * st) + (nI n)) - 1).toNatClampNeg) - (r.2.2.2.2.2.2.2.2.1 (((300 * st) + (nI n)) - 1).toNatClampNeg) / r.2.2.1 * r.2.2.1))) H := hP
                      have hD : va_D A (wMo G ad o (r.1, r.2.1, r.2.2.1, r.2.2.2.1, r.2.2.2.2.1, r.2.2.2.2.2.1, r.2.2.2.2.2.2.1, r.2.2.2.2.2.2.2.1, r.2.2.2.2.2.2.2.2.1, r.2.2.2.2.2.2.2.2.2.1, hw9, nI (cw - 1), ((nI n) + 1) + ((r.2.2.2.2.2.2.2.2.1 (((300 * st) + (nI n)) - 1).toNatClampNeg) - (r.2.2.2.2.2.2.2.2.1 (((300 * st) + (nI n)) - 1).toNatClampNeg) / r.2.2.1 * r.2.2.1))) := hD
                      refine lv_iconst (v := 0) hx hb dX7_runChain_159 (by decide) ?_
                      refine lv_istore (lv' := [(5, .int 0), (4, .int 1), (3, .int (((300 * st) + (nI n)) - 1)), (2, .int (nI n)), (0, .ref (ad o)), (1, .int st)]) hx hb dX7_runChain_160 hl (by decide) rfl (fun ls hl => ?_)
                      have loop7 : ∀ (fu7 : Nat) (j : Nat) (v : Nat → Int32), cw - 1 - j < fu7 → mShL (cw - 1) fu7 j v = mShL (cw - 1) (cw - 1 - 0 + 1) 0 hw9 → j ≤ cw - 1 → ∀ (H : Heap) (locs : List Loc) (ls : Array Slot), va_P G.1 vwCl (wMo G ad o (r.1, r.2.1, r.2.2.1, r.2.2.2.1, r.2.2.2.2.1, r.2.2.2.2.2.1, r.2.2.2.2.2.2.1, r.2.2.2.2.2.2.2.1, r.2.2.2.2.2.2.2.2.1, r.2.2.2.2.2.2.2.2.2.1, v, nI (cw - 1), ((nI n) + 1) + ((r.2.2.2.2.2.2.2.2.1 (((300 * st) + (nI n)) - 1).toNatClampNeg) - (r.2.2.2.2.2.2.2.2.1 (((300 * st) + (nI n)) - 1).toNatClampNeg) / r.2.2.1 * r.2.2.1))) H → va_D A (wMo G ad o (r.1, r.2.1, r.2.2.1, r.2.2.2.1, r.2.2.2.2.1, r.2.2.2.2.2.1, r.2.2.2.2.2.2.1, r.2.2.2.2.2.2.2.1, r.2.2.2.2.2.2.2.2.1, r.2.2.2.2.2.2.2.2.2.1, v, nI (cw - 1), ((nI n) + 1) + ((r.2.2.2.2.2.2.2.2.1 (((300 * st) + (nI n)) - 1).toNatClampNeg) - (r.2.2.2.2.2.2.2.2.1 (((300 * st) + (nI n)) - 1).toNatClampNeg) / r.2.2.1 * r.2.2.1))) → va_S A s.heap H locs → lv_has ls 6 [(5, .int (nI j)), (4, .int 1), (3, .int (((300 * st) + (nI n)) - 1)), (2, .int (nI n)), (0, .ref (ad o)), (1, .int st)] → W p l e (headSpec wsX7_runChain { frames := 0, cells := 0, slots := 0, locals := 0 }).room s m ([.ref (ad o), .int st] : List Value).toArray below meth c H locs 0 0 (MQ below (WQ none G (wMo G ad o (r.1, r.2.1, r.2.2.1, r.2.2.2.1, r.2.2.2.2.1, r.2.2.2.2.2.1, r.2.2.2.2.2.2.1, r.2.2.2.2.2.2.2.1, r.2.2.2.2.2.2.2.2.1, r.2.2.2.2.2.2.2.2.2.1, (mRcL r.2.2.1 r.2.2.2.2.2.2.2.1 r.2.2.2.2.2.2.2.2.1 st (r.2.2.2.1 st.toNatClampNeg) (301 - 1 + 1) 1 0 0 r.2.2.2.2.2.2.2.2.2.2.1).2.2, nI (mRcL r.2.2.1 r.2.2.2.2.2.2.2.1 r.2.2.2.2.2.2.2.2.1 st (r.2.2.2.1 st.toNatClampNeg) (301 - 1 + 1) 1 0 0 r.2.2.2.2.2.2.2.2.2.2.1).1, (mRcL r.2.2.1 r.2.2.2.2.2.2.2.1 r.2.2.2.2.2.2.2.2.1 st (r.2.2.2.1 st.toNatClampNeg) (301 - 1 + 1) 1 0 0 r.2.2.2.2.2.2.2.2.2.2.1).2.1)) A) ([.ref (ad o), .int st] : List Value).toArray s 0 0 A) (F0 m 162 ls []) := by
                        intro fu7
                        induction fu7 with
                        | zero => intro j v hm; exact absurd hm (Nat.not_lt_zero _)
                        | succ fu7 ih7 =>
                          intro j v hm7 hR7 hj9 H locs ls hP hD hS hl
                          refine lv_iload hx hb dX7_runChain_162 (lv_at hl 0 rfl) ?_
                          refine lv_aload_n hx hb dX7_runChain_164 rfl (lv_at hl 4 rfl) ?_
                          refine va_get (D := G.1) (ci := 7) (v := .int (nI (cw - 1))) (C := RX7) (T := TX7) (N := 13) hx hb hts hiX7 hown hY.1 hP 0 rfl rfl 11 (by decide) kf113 (fun _ h9 => h9) rfl dX7_runChain_165 ?_
                          refine lv_icmp_ge (tgt := 193) hx hb dX7_runChain_168 (by decide) (fun h168_14 => ?_) (fun h168_14 => ?_)
                          · obtain rfl : v = (mShL (cw - 1) (cw - 1 - 0 + 1) 0 hw9) := by rw [← hR7]; simp only [mShL, h168_14, ↓reduceIte]
                            refine lv_goto (tgt := 134) hx hb dX7_runChain_193 (by decide) ?_
                            exact ih6 (cw - 1) ((mShL (cw - 1) (cw - 1 - 0 + 1) 0 hw9)) (by have := (mWt_go hwt h146_13).1; omega) (by rw [← hR6]; simp only [mChW, h146_13, ↓reduceIte]) (by have := (mWt_go hwt h146_13).1; omega) (mWt_go hwt h146_13).2 _ _ ls hP hD hS (lv_sub hl [1, 2, 3, 4, 5] rfl)
                          · refine lv_aload_n hx hb dX7_runChain_171 rfl (lv_at hl 4 rfl) ?_
                            refine va_get (D := G.1) (ci := 7) (v := .ref (ad (o+8))) (C := RX7) (T := TX7) (N := 13) hx hb hts hiX7 hown hY.1 hP 0 rfl rfl 10 (by decide) kf39 (fun _ h9 => h9) rfl dX7_runChain_172 ?_
                            refine lv_iload hx hb dX7_runChain_175 (lv_at hl 0 rfl) ?_
                            refine lv_aload_n hx hb dX7_runChain_177 rfl (lv_at hl 4 rfl) ?_
                            refine va_get (D := G.1) (ci := 7) (v := .ref (ad (o+8))) (C := RX7) (T := TX7) (N := 13) hx hb hts hiX7 hown hY.1 hP 0 rfl rfl 10 (by decide) kf39 (fun _ h9 => h9) rfl dX7_runChain_178 ?_
                            refine lv_iload hx hb dX7_runChain_181 (lv_at hl 0 rfl) ?_
                            refine lv_iconst (v := 1) hx hb dX7_runChain_183 (by decide) ?_
                            refine lv_iadd hx hb dX7_runChain_184 ?_
                            refine va_iald hx hb hY.1 hP 8 0 rfl rfl (by rw [← nI_succ]; exact vp_nI (by have := (sh_lt (by omega) hj9 h168_14); omega) (by decide)) dX7_runChain_185 ?_
                            refine va_iast hx hb hY.1 hP hD hS 8 0 rfl rfl (vp_nI (by have := (sh_lt (by omega) hj9 h168_14); omega) (by decide)) dX7_runChain_186 (fun H locs hP hD hS => ?_)
                            have hP : va_P G.1 vwCl (wMo G ad o (r.1, r.2.1, r.2.2.1, r.2.2.2.1, r.2.2.2.2.1, r.2.2.2.2.2.1, r.2.2.2.2.2.2.1, r.2.2.2.2.2.2.2.1, r.2.2.2.2.2.2.2.2.1, r.2.2.2.2.2.2.2.2.2.1, upd v (nI j).toNatClampNeg (v ((nI j) + 1).toNatClampNeg), nI (cw - 1), ((nI n) + 1) + ((r.2.2.2.2.2.2.2.2.1 (((300 * st) + (nI n)) - 1).toNatClampNeg) - (r.2.2.2.2.2.2.2.2.1 (((300 * st) + (nI n)) - 1).toNatClampNeg) / r.2.2.1 * r.2.2.1))) H := hP
                            have hD : va_D A (wMo G ad o (r.1, r.2.1, r.2.2.1, r.2.2.2.1, r.2.2.2.2.1, r.2.2.2.2.2.1, r.2.2.2.2.2.2.1, r.2.2.2.2.2.2.2.1, r.2.2.2.2.2.2.2.2.1, r.2.2.2.2.2.2.2.2.2.1, upd v (nI j).toNatClampNeg (v ((nI j) + 1).toNatClampNeg), nI (cw - 1), ((nI n) + 1) + ((r.2.2.2.2.2.2.2.2.1 (((300 * st) + (nI n)) - 1).toNatClampNeg) - (r.2.2.2.2.2.2.2.2.1 (((300 * st) + (nI n)) - 1).toNatClampNeg) / r.2.2.1 * r.2.2.1))) := hD
                            refine lv_iinc (v := (nI j) + 1) (lv' := [(5, .int ((nI j) + 1)), (4, .int 1), (3, .int (((300 * st) + (nI n)) - 1)), (2, .int (nI n)), (0, .ref (ad o)), (1, .int st)]) hx hb dX7_runChain_187 hl (k := 0) rfl rfl (by decide) rfl (fun ls hl => ?_)
                            rw [show (nI j) + 1 = nI (j+1) from (nI_succ j).symm] at hl
                            refine lv_goto (tgt := 162) hx hb dX7_runChain_190 (by decide) ?_
                            exact ih7 (j+1) (upd v (nI j).toNatClampNeg (v ((nI j) + 1).toNatClampNeg)) (by have := (sh_lt (by omega) hj9 h168_14); omega) (by rw [← hR7]; simp only [mShL, h168_14, ↓reduceIte]) (sh_lt (by omega) hj9 h168_14) _ _ ls hP hD hS (lv_sub hl [0, 1, 2, 3, 4, 5] rfl)
                      exact loop7 (cw - 1 - 0 + 1) 0 hw9 (Nat.lt_succ_self _) rfl (Nat.zero_le _) _ _ ls hP hD hS (lv_sub hl [0, 1, 2, 3, 4, 5] rfl)
                exact loop6 (1 + 1) 1 (upd h (0 : Int32).toNatClampNeg (nI n)) (Nat.lt_succ_self _) rfl (by have := (rc_le hmm hm3 (Nat.le_trans hn1.2.1 (Nat.succ_le_succ hm3)) h19_1); omega) (by have q := hT2; simp only [mRcT, h19_1, h43_2, eq_true h55_3, h67_11, h81_12, ↓reduceIte] at q; exact q.1) _ _ ls hP hD hS (lv_sub hl [0, 1, 2, 3, 4] rfl)
            · exact absurd h67_11 (by decide)
        · refine lv_iload_n hx hb dX7_runChain_46 rfl (lv_at hl 1 rfl) ?_
          refine lv_goto (tgt := 54) hx hb dX7_runChain_47 (by decide) ?_
          refine lv_irem hx hb dX7_runChain_54 (nI_ne0 hn1.1 (by have := (rc_le hmm hm3 (Nat.le_trans hn1.2.1 (Nat.succ_le_succ hm3)) h19_1); omega)) ?_
          refine lv_if_ne (tgt := 62) hx hb dX7_runChain_55 (by decide) (fun h55_15 => ?_) (fun h55_15 => ?_)
          · refine lv_iconst (v := 0) hx hb dX7_runChain_62 (by decide) ?_
            refine lv_istore (lv' := [(4, .int 0), (3, .int (((300 * st) + (nI n)) - 1)), (2, .int (nI n)), (0, .ref (ad o)), (1, .int st)]) hx hb dX7_runChain_63 hl (by decide) rfl (fun ls hl => ?_)
            refine lv_iload hx hb dX7_runChain_65 (lv_at hl 0 rfl) ?_
            refine lv_if_ne (tgt := 78) hx hb dX7_runChain_67 (by decide) (fun h67_16 => ?_) (fun h67_16 => ?_)
            · exact absurd rfl h67_16
            · refine lv_iload_n hx hb dX7_runChain_70 rfl (lv_at hl 2 rfl) ?_
              refine lv_aload_n hx hb dX7_runChain_71 rfl (lv_at hl 3 rfl) ?_
              refine va_get (D := G.1) (ci := 7) (v := .int x) (C := RX7) (T := TX7) (N := 13) hx hb hts hiX7 hown hY.1 hP 0 rfl rfl 12 (by decide) kf116 (fun _ h9 => h9) rfl dX7_runChain_72 ?_
              refine lv_icmp_ne (tgt := 134) hx hb dX7_runChain_75 (by decide) (fun h75_17 => ?_) (fun h75_17 => ?_)
              · have loop8 : ∀ (fu8 : Nat) (cw : Nat) (hw9 : Nat → Int32), cw < fu8 → mChW r.2.2.1 n fu8 cw hw9 = mChW r.2.2.1 n (cz + 1) cz h → cw ≤ 300 → mWt r.2.2.1 n cw hw9 → ∀ (H : Heap) (locs : List Loc) (ls : Array Slot), va_P G.1 vwCl (wMo G ad o (r.1, r.2.1, r.2.2.1, r.2.2.2.1, r.2.2.2.2.1, r.2.2.2.2.2.1, r.2.2.2.2.2.2.1, r.2.2.2.2.2.2.2.1, r.2.2.2.2.2.2.2.2.1, r.2.2.2.2.2.2.2.2.2.1, hw9, nI cw, x)) H → va_D A (wMo G ad o (r.1, r.2.1, r.2.2.1, r.2.2.2.1, r.2.2.2.2.1, r.2.2.2.2.2.1, r.2.2.2.2.2.2.1, r.2.2.2.2.2.2.2.1, r.2.2.2.2.2.2.2.2.1, r.2.2.2.2.2.2.2.2.2.1, hw9, nI cw, x)) → va_S A s.heap H locs → lv_has ls 6 [(4, .int 0), (3, .int (((300 * st) + (nI n)) - 1)), (2, .int (nI n)), (0, .ref (ad o)), (1, .int st)] → W p l e (headSpec wsX7_runChain { frames := 0, cells := 0, slots := 0, locals := 0 }).room s m ([.ref (ad o), .int st] : List Value).toArray below meth c H locs 0 0 (MQ below (WQ none G (wMo G ad o (r.1, r.2.1, r.2.2.1, r.2.2.2.1, r.2.2.2.2.1, r.2.2.2.2.2.1, r.2.2.2.2.2.2.1, r.2.2.2.2.2.2.2.1, r.2.2.2.2.2.2.2.2.1, r.2.2.2.2.2.2.2.2.2.1, (mRcL r.2.2.1 r.2.2.2.2.2.2.2.1 r.2.2.2.2.2.2.2.2.1 st (r.2.2.2.1 st.toNatClampNeg) (301 - 1 + 1) 1 0 0 r.2.2.2.2.2.2.2.2.2.2.1).2.2, nI (mRcL r.2.2.1 r.2.2.2.2.2.2.2.1 r.2.2.2.2.2.2.2.2.1 st (r.2.2.2.1 st.toNatClampNeg) (301 - 1 + 1) 1 0 0 r.2.2.2.2.2.2.2.2.2.2.1).1, (mRcL r.2.2.1 r.2.2.2.2.2.2.2.1 r.2.2.2.2.2.2.2.2.1 st (r.2.2.2.1 st.toNatClampNeg) (301 - 1 + 1) 1 0 0 r.2.2.2.2.2.2.2.2.2.2.1).2.1)) A) ([.ref (ad o), .int st] : List Value).toArray s 0 0 A) (F0 m 134 ls []) := by
                  intro fu8
                  induction fu8 with
                  | zero => intro cw hw9 hm; exact absurd hm (Nat.not_lt_zero _)
                  | succ fu8 ih8 =>
                    intro cw hw9 hm8 hR8 hc9 hwt H locs ls hP hD hS hl
                    refine lv_aload_n hx hb dX7_runChain_134 rfl (lv_at hl 3 rfl) ?_
                    refine va_get (D := G.1) (ci := 7) (v := .ref (ad (o+8))) (C := RX7) (T := TX7) (N := 13) hx hb hts hiX7 hown hY.1 hP 0 rfl rfl 10 (by decide) kf39 (fun _ h9 => h9) rfl dX7_runChain_135 ?_
                    refine lv_iconst (v := 0) hx hb dX7_runChain_138 (by decide) ?_
                    refine va_iald hx hb hY.1 hP 8 0 rfl rfl vp_0_300 dX7_runChain_139 ?_
                    refine lv_iload_n hx hb dX7_runChain_140 rfl (lv_at hl 2 rfl) ?_
                    refine lv_aload_n hx hb dX7_runChain_141 rfl (lv_at hl 3 rfl) ?_
                    refine va_get (D := G.1) (ci := 7) (v := .int r.2.2.1) (C := RX7) (T := TX7) (N := 13) hx hb hts hiX7 hown hY.1 hP 0 rfl rfl 2 (by decide) kf13 (fun _ h9 => h9) rfl dX7_runChain_142 ?_
                    refine lv_isub hx hb dX7_runChain_145 ?_
                    refine lv_icmp_gt (tgt := 196) hx hb dX7_runChain_146 (by decide) (fun h146_18 => ?_) (fun h146_18 => ?_)
                    · have hOcw : cw = (mChW r.2.2.1 n (cz + 1) cz h).1 := by rw [← hR8]; simp only [mChW, h146_18, ↓reduceIte]
                      have hOhw9 : hw9 = (mChW r.2.2.1 n (cz + 1) cz h).2 := by rw [← hR8]; simp only [mChW, h146_18, ↓reduceIte]
                      subst hOcw
                      subst hOhw9
                      refine lv_iinc (v := (nI n) + 1) (lv' := [(2, .int ((nI n) + 1)), (4, .int 0), (3, .int (((300 * st) + (nI n)) - 1)), (0, .ref (ad o)), (1, .int st)]) hx hb dX7_runChain_196 hl (k := 2) rfl rfl (by decide) rfl (fun ls hl => ?_)
                      rw [show (nI n) + 1 = nI (n+1) from (nI_succ n).symm] at hl
                      refine lv_goto (tgt := 12) hx hb dX7_runChain_199 (by decide) ?_
                      exact ih (n+1) ((mChW r.2.2.1 n (cz + 1) cz h).1) x ((mChW r.2.2.1 n (cz + 1) cz h).2) (by have := (rc_le hmm hm3 (Nat.le_trans hn1.2.1 (Nat.succ_le_succ hm3)) h19_1); omega) (by rw [← hR1]; simp only [mRcL, h19_1, h43_2, h55_15, eq_true h67_16, h75_17, ↓reduceIte]) ⟨by omega, Nat.succ_le_succ (rc_le hmm hm3 (Nat.le_trans hn1.2.1 (Nat.succ_le_succ hm3)) h19_1), Nat.lt_succ_of_le (Nat.le_trans mChW_le (by omega))⟩ (by have q := hT2; simp only [mRcT, h19_1, h43_2, h55_15, eq_true h67_16, h75_17, ↓reduceIte] at q; exact q.2) _ _ ls hP hD hS (lv_sub hl [0, 3, 4] rfl)
                    · refine lv_aload_n hx hb dX7_runChain_149 rfl (lv_at hl 3 rfl) ?_
                      refine lv_dup hx hb dX7_runChain_150 rfl ?_
                      refine va_get (D := G.1) (ci := 7) (v := .int (nI cw)) (C := RX7) (T := TX7) (N := 13) hx hb hts hiX7 hown hY.1 hP 0 rfl rfl 11 (by decide) kf113 (fun _ h9 => h9) rfl dX7_runChain_151 ?_
                      refine lv_iconst (v := 1) hx hb dX7_runChain_154 (by decide) ?_
                      refine lv_isub hx hb dX7_runChain_155 ?_
                      rw [show (nI cw) - 1 = nI (cw - 1) from nI_m1 (mWt_go hwt h146_18).1]
                      refine va_put (D := G.1) (ci := 7) (v := .int (nI (cw - 1))) (ty := .int) (C := RX7) (T := TX7) (N := 13) hx hb hts hiX7 tyX7 tyX7_ok nmX7 hown hY.1 hP hD hS 0 rfl rfl 11 (by decide) kf113 (fun _ h9 => h9) rfl (by decide +kernel) rfl rfl (Nat.le_of_ble_eq_true rfl) dX7_runChain_156 (fun H locs hP hD hS => ?_)
                      have hP : va_P G.1 vwCl (wMo G ad o (r.1, r.2.1, r.2.2.1, r.2.2.2.1, r.2.2.2.2.1, r.2.2.2.2.2.1, r.2.2.2.2.2.2.1, r.2.2.2.2.2.2.2.1, r.2.2.2.2.2.2.2.2.1, r.2.2.2.2.2.2.2.2.2.1, hw9, nI (cw - 1), x)) H := hP
                      have hD : va_D A (wMo G ad o (r.1, r.2.1, r.2.2.1, r.2.2.2.1, r.2.2.2.2.1, r.2.2.2.2.2.1, r.2.2.2.2.2.2.1, r.2.2.2.2.2.2.2.1, r.2.2.2.2.2.2.2.2.1, r.2.2.2.2.2.2.2.2.2.1, hw9, nI (cw - 1), x)) := hD
                      refine lv_iconst (v := 0) hx hb dX7_runChain_159 (by decide) ?_
                      refine lv_istore (lv' := [(5, .int 0), (4, .int 0), (3, .int (((300 * st) + (nI n)) - 1)), (2, .int (nI n)), (0, .ref (ad o)), (1, .int st)]) hx hb dX7_runChain_160 hl (by decide) rfl (fun ls hl => ?_)
                      have loop9 : ∀ (fu9 : Nat) (j : Nat) (v : Nat → Int32), cw - 1 - j < fu9 → mShL (cw - 1) fu9 j v = mShL (cw - 1) (cw - 1 - 0 + 1) 0 hw9 → j ≤ cw - 1 → ∀ (H : Heap) (locs : List Loc) (ls : Array Slot), va_P G.1 vwCl (wMo G ad o (r.1, r.2.1, r.2.2.1, r.2.2.2.1, r.2.2.2.2.1, r.2.2.2.2.2.1, r.2.2.2.2.2.2.1, r.2.2.2.2.2.2.2.1, r.2.2.2.2.2.2.2.2.1, r.2.2.2.2.2.2.2.2.2.1, v, nI (cw - 1), x)) H → va_D A (wMo G ad o (r.1, r.2.1, r.2.2.1, r.2.2.2.1, r.2.2.2.2.1, r.2.2.2.2.2.1, r.2.2.2.2.2.2.1, r.2.2.2.2.2.2.2.1, r.2.2.2.2.2.2.2.2.1, r.2.2.2.2.2.2.2.2.2.1, v, nI (cw - 1), x)) → va_S A s.heap H locs → lv_has ls 6 [(5, .int (nI j)), (4, .int 0), (3, .int (((300 * st) + (nI n)) - 1)), (2, .int (nI n)), (0, .ref (ad o)), (1, .int st)] → W p l e (headSpec wsX7_runChain { frames := 0, cells := 0, slots := 0, locals := 0 }).room s m ([.ref (ad o), .int st] : List Value).toArray below meth c H locs 0 0 (MQ below (WQ none G (wMo G ad o (r.1, r.2.1, r.2.2.1, r.2.2.2.1, r.2.2.2.2.1, r.2.2.2.2.2.1, r.2.2.2.2.2.2.1, r.2.2.2.2.2.2.2.1, r.2.2.2.2.2.2.2.2.1, r.2.2.2.2.2.2.2.2.2.1, (mRcL r.2.2.1 r.2.2.2.2.2.2.2.1 r.2.2.2.2.2.2.2.2.1 st (r.2.2.2.1 st.toNatClampNeg) (301 - 1 + 1) 1 0 0 r.2.2.2.2.2.2.2.2.2.2.1).2.2, nI (mRcL r.2.2.1 r.2.2.2.2.2.2.2.1 r.2.2.2.2.2.2.2.2.1 st (r.2.2.2.1 st.toNatClampNeg) (301 - 1 + 1) 1 0 0 r.2.2.2.2.2.2.2.2.2.2.1).1, (mRcL r.2.2.1 r.2.2.2.2.2.2.2.1 r.2.2.2.2.2.2.2.2.1 st (r.2.2.2.1 st.toNatClampNeg) (301 - 1 + 1) 1 0 0 r.2.2.2.2.2.2.2.2.2.2.1).2.1)) A) ([.ref (ad o), .int st] : List Value).toArray s 0 0 A) (F0 m 162 ls []) := by
                        intro fu9
                        induction fu9 with
                        | zero => intro j v hm; exact absurd hm (Nat.not_lt_zero _)
                        | succ fu9 ih9 =>
                          intro j v hm9 hR9 hj9 H locs ls hP hD hS hl
                          refine lv_iload hx hb dX7_runChain_162 (lv_at hl 0 rfl) ?_
                          refine lv_aload_n hx hb dX7_runChain_164 rfl (lv_at hl 4 rfl) ?_
                          refine va_get (D := G.1) (ci := 7) (v := .int (nI (cw - 1))) (C := RX7) (T := TX7) (N := 13) hx hb hts hiX7 hown hY.1 hP 0 rfl rfl 11 (by decide) kf113 (fun _ h9 => h9) rfl dX7_runChain_165 ?_
                          refine lv_icmp_ge (tgt := 193) hx hb dX7_runChain_168 (by decide) (fun h168_19 => ?_) (fun h168_19 => ?_)
                          · obtain rfl : v = (mShL (cw - 1) (cw - 1 - 0 + 1) 0 hw9) := by rw [← hR9]; simp only [mShL, h168_19, ↓reduceIte]
                            refine lv_goto (tgt := 134) hx hb dX7_runChain_193 (by decide) ?_
                            exact ih8 (cw - 1) ((mShL (cw - 1) (cw - 1 - 0 + 1) 0 hw9)) (by have := (mWt_go hwt h146_18).1; omega) (by rw [← hR8]; simp only [mChW, h146_18, ↓reduceIte]) (by have := (mWt_go hwt h146_18).1; omega) (mWt_go hwt h146_18).2 _ _ ls hP hD hS (lv_sub hl [1, 2, 3, 4, 5] rfl)
                          · refine lv_aload_n hx hb dX7_runChain_171 rfl (lv_at hl 4 rfl) ?_
                            refine va_get (D := G.1) (ci := 7) (v := .ref (ad (o+8))) (C := RX7) (T := TX7) (N := 13) hx hb hts hiX7 hown hY.1 hP 0 rfl rfl 10 (by decide) kf39 (fun _ h9 => h9) rfl dX7_runChain_172 ?_
                            refine lv_iload hx hb dX7_runChain_175 (lv_at hl 0 rfl) ?_
                            refine lv_aload_n hx hb dX7_runChain_177 rfl (lv_at hl 4 rfl) ?_
                            refine va_get (D := G.1) (ci := 7) (v := .ref (ad (o+8))) (C := RX7) (T := TX7) (N := 13) hx hb hts hiX7 hown hY.1 hP 0 rfl rfl 10 (by decide) kf39 (fun _ h9 => h9) rfl dX7_runChain_178 ?_
                            refine lv_iload hx hb dX7_runChain_181 (lv_at hl 0 rfl) ?_
                            refine lv_iconst (v := 1) hx hb dX7_runChain_183 (by decide) ?_
                            refine lv_iadd hx hb dX7_runChain_184 ?_
                            refine va_iald hx hb hY.1 hP 8 0 rfl rfl (by rw [← nI_succ]; exact vp_nI (by have := (sh_lt (by omega) hj9 h168_19); omega) (by decide)) dX7_runChain_185 ?_
                            refine va_iast hx hb hY.1 hP hD hS 8 0 rfl rfl (vp_nI (by have := (sh_lt (by omega) hj9 h168_19); omega) (by decide)) dX7_runChain_186 (fun H locs hP hD hS => ?_)
                            have hP : va_P G.1 vwCl (wMo G ad o (r.1, r.2.1, r.2.2.1, r.2.2.2.1, r.2.2.2.2.1, r.2.2.2.2.2.1, r.2.2.2.2.2.2.1, r.2.2.2.2.2.2.2.1, r.2.2.2.2.2.2.2.2.1, r.2.2.2.2.2.2.2.2.2.1, upd v (nI j).toNatClampNeg (v ((nI j) + 1).toNatClampNeg), nI (cw - 1), x)) H := hP
                            have hD : va_D A (wMo G ad o (r.1, r.2.1, r.2.2.1, r.2.2.2.1, r.2.2.2.2.1, r.2.2.2.2.2.1, r.2.2.2.2.2.2.1, r.2.2.2.2.2.2.2.1, r.2.2.2.2.2.2.2.2.1, r.2.2.2.2.2.2.2.2.2.1, upd v (nI j).toNatClampNeg (v ((nI j) + 1).toNatClampNeg), nI (cw - 1), x)) := hD
                            refine lv_iinc (v := (nI j) + 1) (lv' := [(5, .int ((nI j) + 1)), (4, .int 0), (3, .int (((300 * st) + (nI n)) - 1)), (2, .int (nI n)), (0, .ref (ad o)), (1, .int st)]) hx hb dX7_runChain_187 hl (k := 0) rfl rfl (by decide) rfl (fun ls hl => ?_)
                            rw [show (nI j) + 1 = nI (j+1) from (nI_succ j).symm] at hl
                            refine lv_goto (tgt := 162) hx hb dX7_runChain_190 (by decide) ?_
                            exact ih9 (j+1) (upd v (nI j).toNatClampNeg (v ((nI j) + 1).toNatClampNeg)) (by have := (sh_lt (by omega) hj9 h168_19); omega) (by rw [← hR9]; simp only [mShL, h168_19, ↓reduceIte]) (sh_lt (by omega) hj9 h168_19) _ _ ls hP hD hS (lv_sub hl [0, 1, 2, 3, 4, 5] rfl)
                      exact loop9 (cw - 1 - 0 + 1) 0 hw9 (Nat.lt_succ_self _) rfl (Nat.zero_le _) _ _ ls hP hD hS (lv_sub hl [0, 1, 2, 3, 4, 5] rfl)
                exact loop8 (cz + 1) cz h (Nat.lt_succ_self _) rfl (by have := (rc_le hmm hm3 (Nat.le_trans hn1.2.1 (Nat.succ_le_succ hm3)) h19_1); omega) (by have q := hT2; simp only [mRcT, h19_1, h43_2, h55_15, eq_true h67_16, h75_17, ↓reduceIte] at q; exact q.1) _ _ ls hP hD hS (lv_sub hl [0, 1, 2, 3, 4] rfl)
              · refine lv_aload_n hx hb dX7_runChain_78 rfl (lv_at hl 3 rfl) ?_
                refine lv_iload hx hb dX7_runChain_79 (lv_at hl 0 rfl) ?_
                refine lv_if_eq (tgt := 88) hx hb dX7_runChain_81 (by decide) (fun h81_20 => ?_) (fun h81_20 => ?_)
                · refine lv_aload_n hx hb dX7_runChain_88 rfl (lv_at hl 3 rfl) ?_
                  refine va_get (D := G.1) (ci := 7) (v := .int (nI cz)) (C := RX7) (T := TX7) (N := 13) hx hb hts hiX7 hown hY.1 hP 0 rfl rfl 11 (by decide) kf113 (fun _ h9 => h9) rfl dX7_runChain_89 ?_
                  refine va_put (D := G.1) (ci := 7) (v := .int (nI cz)) (ty := .int) (C := RX7) (T := TX7) (N := 13) hx hb hts hiX7 tyX7 tyX7_ok nmX7 hown hY.1 hP hD hS 0 rfl rfl 11 (by decide) kf113 (fun _ h9 => h9) rfl (by decide +kernel) rfl rfl (Nat.le_of_ble_eq_true rfl) dX7_runChain_92 (fun H locs hP hD hS => ?_)
                  have hP : va_P G.1 vwCl (wMo G ad o (r.1, r.2.1, r.2.2.1, r.2.2.2.1, r.2.2.2.2.1, r.2.2.2.2.2.1, r.2.2.2.2.2.2.1, r.2.2.2.2.2.2.2.1, r.2.2.2.2.2.2.2.2.1, r.2.2.2.2.2.2.2.2.2.1, h, nI cz, x)) H := hP
                  have hD : va_D A (wMo G ad o (r.1, r.2.1, r.2.2.1, r.2.2.2.1, r.2.2.2.2.1, r.2.2.2.2.2.1, r.2.2.2.2.2.2.1, r.2.2.2.2.2.2.2.1, r.2.2.2.2.2.2.2.2.1, r.2.2.2.2.2.2.2.2.2.1, h, nI cz, x)) := hD
                  refine lv_aload_n hx hb dX7_runChain_95 rfl (lv_at hl 3 rfl) ?_
                  refine va_get (D := G.1) (ci := 7) (v := .ref (ad (o+8))) (C := RX7) (T := TX7) (N := 13) hx hb hts hiX7 hown hY.1 hP 0 rfl rfl 10 (by decide) kf39 (fun _ h9 => h9) rfl dX7_runChain_96 ?_
                  refine lv_aload_n hx hb dX7_runChain_99 rfl (lv_at hl 3 rfl) ?_
                  refine va_get (D := G.1) (ci := 7) (v := .int (nI cz)) (C := RX7) (T := TX7) (N := 13) hx hb hts hiX7 hown hY.1 hP 0 rfl rfl 11 (by decide) kf113 (fun _ h9 => h9) rfl dX7_runChain_100 ?_
                  refine lv_iload_n hx hb dX7_runChain_103 rfl (lv_at hl 2 rfl) ?_
                  refine va_iast hx hb hY.1 hP hD hS 8 0 rfl rfl (vp_nI (by have := (rc_le hmm hm3 (Nat.le_trans hn1.2.1 (Nat.succ_le_succ hm3)) h19_1); omega) (by decide)) dX7_runChain_104 (fun H locs hP hD hS => ?_)
                  have hP : va_P G.1 vwCl (wMo G ad o (r.1, r.2.1, r.2.2.1, r.2.2.2.1, r.2.2.2.2.1, r.2.2.2.2.2.1, r.2.2.2.2.2.2.1, r.2.2.2.2.2.2.2.1, r.2.2.2.2.2.2.2.2.1, r.2.2.2.2.2.2.2.2.2.1, upd h (nI cz).toNatClampNeg (nI n), nI cz, x)) H := hP
                  have hD : va_D A (wMo G ad o (r.1, r.2.1, r.2.2.1, r.2.2.2.1, r.2.2.2.2.1, r.2.2.2.2.2.1, r.2.2.2.2.2.2.1, r.2.2.2.2.2.2.2.1, r.2.2.2.2.2.2.2.2.1, r.2.2.2.2.2.2.2.2.2.1, upd h (nI cz).toNatClampNeg (nI n), nI cz, x)) := hD
                  refine lv_aload_n hx hb dX7_runChain_105 rfl (lv_at hl 3 rfl) ?_
                  refine lv_dup hx hb dX7_runChain_106 rfl ?_
                  refine va_get (D := G.1) (ci := 7) (v := .int (nI cz)) (C := RX7) (T := TX7) (N := 13) hx hb hts hiX7 hown hY.1 hP 0 rfl rfl 11 (by decide) kf113 (fun _ h9 => h9) rfl dX7_runChain_107 ?_
                  refine lv_iconst (v := 1) hx hb dX7_runChain_110 (by decide) ?_
                  refine lv_iadd hx hb dX7_runChain_111 ?_
                  rw [show (nI cz) + 1 = nI (cz + 1) from (nI_succ cz).symm]
                  refine va_put (D := G.1) (ci := 7) (v := .int (nI (cz + 1))) (ty := .int) (C := RX7) (T := TX7) (N := 13) hx hb hts hiX7 tyX7 tyX7_ok nmX7 hown hY.1 hP hD hS 0 rfl rfl 11 (by decide) kf113 (fun _ h9 => h9) rfl (by decide +kernel) rfl rfl (Nat.le_of_ble_eq_true rfl) dX7_runChain_112 (fun H locs hP hD hS => ?_)
                  have hP : va_P G.1 vwCl (wMo G ad o (r.1, r.2.1, r.2.2.1, r.2.2.2.1, r.2.2.2.2.1, r.2.2.2.2.2.1, r.2.2.2.2.2.2.1, r.2.2.2.2.2.2.2.1, r.2.2.2.2.2.2.2.2.1, r.2.2.2.2.2.2.2.2.2.1, upd h (nI cz).toNatClampNeg (nI n), nI (cz + 1), x)) H := hP
                  have hD : va_D A (wMo G ad o (r.1, r.2.1, r.2.2.1, r.2.2.2.1, r.2.2.2.2.1, r.2.2.2.2.2.1, r.2.2.2.2.2.2.1, r.2.2.2.2.2.2.2.1, r.2.2.2.2.2.2.2.2.1, r.2.2.2.2.2.2.2.2.2.1, upd h (nI cz).toNatClampNeg (nI n), nI (cz + 1), x)) := hD
                  refine lv_aload_n hx hb dX7_runChain_115 rfl (lv_at hl 3 rfl) ?_
                  refine lv_iload_n hx hb dX7_runChain_116 rfl (lv_at hl 2 rfl) ?_
                  refine lv_iconst (v := 1) hx hb dX7_runChain_117 (by decide) ?_
                  refine lv_iadd hx hb dX7_runChain_118 ?_
                  refine lv_aload_n hx hb dX7_runChain_119 rfl (lv_at hl 3 rfl) ?_
                  refine va_get (D := G.1) (ci := 7) (v := .ref (ad (o+6))) (C := RX7) (T := TX7) (N := 13) hx hb hts hiX7 hown hY.1 hP 0 rfl rfl 8 (by decide) kf32 (fun _ h9 => h9) rfl dX7_runChain_120 ?_
                  refine lv_iload_n hx hb dX7_runChain_123 rfl (lv_at hl 1 rfl) ?_
                  refine va_iald hx hb hY.1 hP 6 0 rfl rfl (hBn n hn1.1 (rc_le hmm hm3 (Nat.le_trans hn1.2.1 (Nat.succ_le_succ hm3)) h19_1)) dX7_runChain_124 ?_
                  refine lv_aload_n hx hb dX7_runChain_125 rfl (lv_at hl 3 rfl) ?_
                  refine va_get (D := G.1) (ci := 7) (v := .int r.2.2.1) (C := RX7) (T := TX7) (N := 13) hx hb hts hiX7 hown hY.1 hP 0 rfl rfl 2 (by decide) kf13 (fun _ h9 => h9) rfl dX7_runChain_126 ?_
                  refine lv_irem hx hb dX7_runChain_129 hw ?_
                  refine lv_iadd hx hb dX7_runChain_130 ?_
                  refine va_put (D := G.1) (ci := 7) (v := .int (((nI n) + 1) + ((r.2.2.2.2.2.2.2.2.1 (((300 * st) + (nI n)) - 1).toNatClampNeg) - (r.2.2.2.2.2.2.2.2.1 (((300 * st) + (nI n)) - 1).toNatClampNeg) / r.2.2.1 * r.2.2.1))) (ty := .int) (C := RX7) (T := TX7) (N := 13) hx hb hts hiX7 tyX7 tyX7_ok nmX7 hown hY.1 hP hD hS 0 rfl rfl 12 (by decide) kf116 (fun _ h9 => h9) rfl (by decide +kernel) rfl rfl (Nat.le_of_ble_eq_true rfl) dX7_runChain_131 (fun H locs hP hD hS => ?_)
                  have hP : va_P G.1 vwCl (wMo G ad o (r.1, r.2.1, r.2.2.1, r.2.2.2.1, r.2.2.2.2.1, r.2.2.2.2.2.1, r.2.2.2.2.2.2.1, r.2.2.2.2.2.2.2.1, r.2.2.2.2.2.2.2.2.1, r.2.2.2.2.2.2.2.2.2.1, upd h (nI cz).toNatClampNeg (nI n), nI (cz + 1), ((nI n) + 1) + ((r.2.2.2.2.2.2.2.2.1 (((300 * st) + (nI n)) - 1).toNatClampNeg) - (r.2.2.2.2.2.2.2.2.1 (((300 * st) + (nI n)) - 1).toNatClampNeg) / r.2.2.1 * r.2.2.1))) H := hP
                  have hD : va_D A (wMo G ad o (r.1, r.2.1, r.2.2.1, r.2.2.2.1, r.2.2.2.2.1, r.2.2.2.2.2.1, r.2.2.2.2.2.2.1, r.2.2.2.2.2.2.2.1, r.2.2.2.2.2.2.2.2.1, r.2.2.2.2.2.2.2.2.2.1, upd h (nI cz).toNatClampNeg (nI n), nI (cz + 1), ((nI n) + 1) + ((r.2.2.2.2.2.2.2.2.1 (((300 * st) + (nI n)) - 1).toNatClampNeg) - (r.2.2.2.2.2.2.2.2.1 (((300 * st) + (nI n)) - 1).toNatClampNeg) / r.2.2.1 * r.2.2.1))) := hD
                  have loop10 : ∀ (fu10 : Nat) (cw : Nat) (hw9 : Nat → Int32), cw < fu10 → mChW r.2.2.1 n fu10 cw hw9 = mChW r.2.2.1 n ((cz + 1) + 1) (cz + 1) (upd h (nI cz).toNatClampNeg (nI n)) → cw ≤ 300 → mWt r.2.2.1 n cw hw9 → ∀ (H : Heap) (locs : List Loc) (ls : Array Slot), va_P G.1 vwCl (wMo G ad o (r.1, r.2.1, r.2.2.1, r.2.2.2.1, r.2.2.2.2.1, r.2.2.2.2.2.1, r.2.2.2.2.2.2.1, r.2.2.2.2.2.2.2.1, r.2.2.2.2.2.2.2.2.1, r.2.2.2.2.2.2.2.2.2.1, hw9, nI cw, ((nI n) + 1) + ((r.2.2.2.2.2.2.2.2.1 (((300 * st) + (nI n)) - 1).toNatClampNeg) - (r.2.2.2.2.2.2.2.2.1 (((300 * st) + (nI n)) - 1).toNatClampNeg) / r.2.2.1 * r.2.2.1))) H → va_D A (wMo G ad o (r.1, r.2.1, r.2.2.1, r.2.2.2.1, r.2.2.2.2.1, r.2.2.2.2.2.1, r.2.2.2.2.2.2.1, r.2.2.2.2.2.2.2.1, r.2.2.2.2.2.2.2.2.1, r.2.2.2.2.2.2.2.2.2.1, hw9, nI cw, ((nI n) + 1) + ((r.2.2.2.2.2.2.2.2.1 (((300 * st) + (nI n)) - 1).toNatClampNeg) - (r.2.2.2.2.2.2.2.2.1 (((300 * st) + (nI n)) - 1).toNatClampNeg) / r.2.2.1 * r.2.2.1))) → va_S A s.heap H locs → lv_has ls 6 [(4, .int 0), (3, .int (((300 * st) + (nI n)) - 1)), (2, .int (nI n)), (0, .ref (ad o)), (1, .int st)] → W p l e (headSpec wsX7_runChain { frames := 0, cells := 0, slots := 0, locals := 0 }).room s m ([.ref (ad o), .int st] : List Value).toArray below meth c H locs 0 0 (MQ below (WQ none G (wMo G ad o (r.1, r.2.1, r.2.2.1, r.2.2.2.1, r.2.2.2.2.1, r.2.2.2.2.2.1, r.2.2.2.2.2.2.1, r.2.2.2.2.2.2.2.1, r.2.2.2.2.2.2.2.2.1, r.2.2.2.2.2.2.2.2.2.1, (mRcL r.2.2.1 r.2.2.2.2.2.2.2.1 r.2.2.2.2.2.2.2.2.1 st (r.2.2.2.1 st.toNatClampNeg) (301 - 1 + 1) 1 0 0 r.2.2.2.2.2.2.2.2.2.2.1).2.2, nI (mRcL r.2.2.1 r.2.2.2.2.2.2.2.1 r.2.2.2.2.2.2.2.2.1 st (r.2.2.2.1 st.toNatClampNeg) (301 - 1 + 1) 1 0 0 r.2.2.2.2.2.2.2.2.2.2.1).1, (mRcL r.2.2.1 r.2.2.2.2.2.2.2.1 r.2.2.2.2.2.2.2.2.1 st (r.2.2.2.1 st.toNatClampNeg) (301 - 1 + 1) 1 0 0 r.2.2.2.2.2.2.2.2.2.2.1).2.1)) A) ([.ref (ad o), .int st] : List Value).toArray s 0 0 A) (F0 m 134 ls []) := by
                    intro fu10
                    induction fu10 with
                    | zero => intro cw hw9 hm; exact absurd hm (Nat.not_lt_zero _)
                    | succ fu10 ih10 =>
                      intro cw hw9 hm10 hR10 hc9 hwt H locs ls hP hD hS hl
                      refine lv_aload_n hx hb dX7_runChain_134 rfl (lv_at hl 3 rfl) ?_
                      refine va_get (D := G.1) (ci := 7) (v := .ref (ad (o+8))) (C := RX7) (T := TX7) (N := 13) hx hb hts hiX7 hown hY.1 hP 0 rfl rfl 10 (by decide) kf39 (fun _ h9 => h9) rfl dX7_runChain_135 ?_
                      refine lv_iconst (v := 0) hx hb dX7_runChain_138 (by decide) ?_
                      refine va_iald hx hb hY.1 hP 8 0 rfl rfl vp_0_300 dX7_runChain_139 ?_
                      refine lv_iload_n hx hb dX7_runChain_140 rfl (lv_at hl 2 rfl) ?_
                      refine lv_aload_n hx hb dX7_runChain_141 rfl (lv_at hl 3 rfl) ?_
                      refine va_get (D := G.1) (ci := 7) (v := .int r.2.2.1) (C := RX7) (T := TX7) (N := 13) hx hb hts hiX7 hown hY.1 hP 0 rfl rfl 2 (by decide) kf13 (fun _ h9 => h9) rfl dX7_runChain_142 ?_
                      refine lv_isub hx hb dX7_runChain_145 ?_
                      refine lv_icmp_gt (tgt := 196) hx hb dX7_runChain_146 (by decide) (fun h146_21 => ?_) (fun h146_21 => ?_)
                      · have hOcw : cw = (mChW r.2.2.1 n ((cz + 1) + 1) (cz + 1) (upd h (nI cz).toNatClampNeg (nI n))).1 := by rw [← hR10]; simp only [mChW, h146_21, ↓reduceIte]
                        have hOhw9 : hw9 = (mChW r.2.2.1 n ((cz + 1) + 1) (cz + 1) (upd h (nI cz).toNatClampNeg (nI n))).2 := by rw [← hR10]; simp only [mChW, h146_21, ↓reduceIte]
                        subst hOcw
                        subst hOhw9
                        refine lv_iinc (v := (nI n) + 1) (lv' := [(2, .int ((nI n) + 1)), (4, .int 0), (3, .int (((300 * st) + (nI n)) - 1)), (0, .ref (ad o)), (1, .int st)]) hx hb dX7_runChain_196 hl (k := 2) rfl rfl (by decide) rfl (fun ls hl => ?_)
                        rw [show (nI n) + 1 = nI (n+1) from (nI_succ n).symm] at hl
                        refine lv_goto (tgt := 12) hx hb dX7_runChain_199 (by decide) ?_
                        exact ih (n+1) ((mChW r.2.2.1 n ((cz + 1) + 1) (cz + 1) (upd h (nI cz).toNatClampNeg (nI n))).1) (((nI n) + 1) + ((r.2.2.2.2.2.2.2.2.1 (((300 * st) + (nI n)) - 1).toNatClampNeg) - (r.2.2.2.2.2.2.2.2.1 (((300 * st) + (nI n)) - 1).toNatClampNeg) / r.2.2.1 * r.2.2.1)) ((mChW r.2.2.1 n ((cz + 1) + 1) (cz + 1) (upd h (nI cz).toNatClampNeg (nI n))).2) (by have := (rc_le hmm hm3 (Nat.le_trans hn1.2.1 (Nat.succ_le_succ hm3)) h19_1); omega) (by rw [← hR1]; simp only [mRcL, h19_1, h43_2, h55_15, eq_true h67_16, eq_true h75_17, eq_true h81_20, ↓reduceIte]) ⟨by omega, Nat.succ_le_succ (rc_le hmm hm3 (Nat.le_trans hn1.2.1 (Nat.succ_le_succ hm3)) h19_1), Nat.lt_succ_of_le (Nat.le_trans mChW_le (by omega))⟩ (by have q := hT2; simp only [mRcT, h19_1, h43_2, h55_15, eq_true h67_16, eq_true h75_17, eq_true h81_20, ↓reduceIte] at q; exact q.2) _ _ ls hP hD hS (lv_sub hl [0, 3, 4] rfl)
                      · refine lv_aload_n hx hb dX7_runChain_149 rfl (lv_at hl 3 rfl) ?_
                        refine lv_dup hx hb dX7_runChain_150 rfl ?_
                        refine va_get (D := G.1) (ci := 7) (v := .int (nI cw)) (C := RX7) (T := TX7) (N := 13) hx hb hts hiX7 hown hY.1 hP 0 rfl rfl 11 (by decide) kf113 (fun _ h9 => h9) rfl dX7_runChain_151 ?_
                        refine lv_iconst (v := 1) hx hb dX7_runChain_154 (by decide) ?_
                        refine lv_isub hx hb dX7_runChain_155 ?_
                        rw [show (nI cw) - 1 = nI (cw - 1) from nI_m1 (mWt_go hwt h146_21).1]
                        refine va_put (D := G.1) (ci := 7) (v := .int (nI (cw - 1))) (ty := .int) (C := RX7) (T := TX7) (N := 13) hx hb hts hiX7 tyX7 tyX7_ok nmX7 hown hY.1 hP hD hS 0 rfl rfl 11 (by decide) kf113 (fun _ h9 => h9) rfl (by decide +kernel) rfl rfl (Nat.le_of_ble_eq_true rfl) dX7_runChain_156 (fun H locs hP hD hS => ?_)
                        have hP : va_P G.1 vwCl (wMo G ad o (r.1, r.2.1, r.2.2.1, r.2.2.2.1, r.2.2.2.2.1, r.2.2.2.2.2.1, r.2.2.2.2.2.2.1, r.2.2.2.2.2.2.2.1, r.2.2.2.2.2.2.2.2.1, r.2.2.2.2.2.2.2.2.2.1, hw9, nI (cw - 1), ((nI n) + 1) + ((r.2.2.2.2.2.2.2.2.1 (((300 * st) + (nI n)) - 1).toNatClampNeg) - (r.2.2.2.2.2.2.2.2.1 (((300 * st) + (nI n)) - 1).toNatClampNeg) / r.2.2.1 * r.2.2.1))) H := hP
                        have hD : va_D A (wMo G ad o (r.1, r.2.1, r.2.2.1, r.2.2.2.1, r.2.2.2.2.1, r.2.2.2.2.2.1, r.2.2.2.2.2.2.1, r.2.2.2.2.2.2.2.1, r.2.2.2.2.2.2.2.2.1, r.2.2.2.2.2.2.2.2.2.1, hw9, nI (cw - 1), ((nI n) + 1) + ((r.2.2.2.2.2.2.2.2.1 (((300 * st) + (nI n)) - 1).toNatClampNeg) - (r.2.2.2.2.2.2.2.2.1 (((300 * st) + (nI n)) - 1).toNatClampNeg) / r.2.2.1 * r.2.2.1))) := hD
                        refine lv_iconst (v := 0) hx hb dX7_runChain_159 (by decide) ?_
                        refine lv_istore (lv' := [(5, .int 0), (4, .int 0), (3, .int (((300 * st) + (nI n)) - 1)), (2, .int (nI n)), (0, .ref (ad o)), (1, .int st)]) hx hb dX7_runChain_160 hl (by decide) rfl (fun ls hl => ?_)
                        have loop11 : ∀ (fu11 : Nat) (j : Nat) (v : Nat → Int32), cw - 1 - j < fu11 → mShL (cw - 1) fu11 j v = mShL (cw - 1) (cw - 1 - 0 + 1) 0 hw9 → j ≤ cw - 1 → ∀ (H : Heap) (locs : List Loc) (ls : Array Slot), va_P G.1 vwCl (wMo G ad o (r.1, r.2.1, r.2.2.1, r.2.2.2.1, r.2.2.2.2.1, r.2.2.2.2.2.1, r.2.2.2.2.2.2.1, r.2.2.2.2.2.2.2.1, r.2.2.2.2.2.2.2.2.1, r.2.2.2.2.2.2.2.2.2.1, v, nI (cw - 1), ((nI n) + 1) + ((r.2.2.2.2.2.2.2.2.1 (((300 * st) + (nI n)) - 1).toNatClampNeg) - (r.2.2.2.2.2.2.2.2.1 (((300 * st) + (nI n)) - 1).toNatClampNeg) / r.2.2.1 * r.2.2.1))) H → va_D A (wMo G ad o (r.1, r.2.1, r.2.2.1, r.2.2.2.1, r.2.2.2.2.1, r.2.2.2.2.2.1, r.2.2.2.2.2.2.1, r.2.2.2.2.2.2.2.1, r.2.2.2.2.2.2.2.2.1, r.2.2.2.2.2.2.2.2.2.1, v, nI (cw - 1), ((nI n) + 1) + ((r.2.2.2.2.2.2.2.2.1 (((300 * st) + (nI n)) - 1).toNatClampNeg) - (r.2.2.2.2.2.2.2.2.1 (((300 * st) + (nI n)) - 1).toNatClampNeg) / r.2.2.1 * r.2.2.1))) → va_S A s.heap H locs → lv_has ls 6 [(5, .int (nI j)), (4, .int 0), (3, .int (((300 * st) + (nI n)) - 1)), (2, .int (nI n)), (0, .ref (ad o)), (1, .int st)] → W p l e (headSpec wsX7_runChain { frames := 0, cells := 0, slots := 0, locals := 0 }).room s m ([.ref (ad o), .int st] : List Value).toArray below meth c H locs 0 0 (MQ below (WQ none G (wMo G ad o (r.1, r.2.1, r.2.2.1, r.2.2.2.1, r.2.2.2.2.1, r.2.2.2.2.2.1, r.2.2.2.2.2.2.1, r.2.2.2.2.2.2.2.1, r.2.2.2.2.2.2.2.2.1, r.2.2.2.2.2.2.2.2.2.1, (mRcL r.2.2.1 r.2.2.2.2.2.2.2.1 r.2.2.2.2.2.2.2.2.1 st (r.2.2.2.1 st.toNatClampNeg) (301 - 1 + 1) 1 0 0 r.2.2.2.2.2.2.2.2.2.2.1).2.2, nI (mRcL r.2.2.1 r.2.2.2.2.2.2.2.1 r.2.2.2.2.2.2.2.2.1 st (r.2.2.2.1 st.toNatClampNeg) (301 - 1 + 1) 1 0 0 r.2.2.2.2.2.2.2.2.2.2.1).1, (mRcL r.2.2.1 r.2.2.2.2.2.2.2.1 r.2.2.2.2.2.2.2.2.1 st (r.2.2.2.1 st.toNatClampNeg) (301 - 1 + 1) 1 0 0 r.2.2.2.2.2.2.2.2.2.2.1).2.1)) A) ([.ref (ad o), .int st] : List Value).toArray s 0 0 A) (F0 m 162 ls []) := by
                          intro fu11
                          induction fu11 with
                          | zero => intro j v hm; exact absurd hm (Nat.not_lt_zero _)
                          | succ fu11 ih11 =>
                            intro j v hm11 hR11 hj9 H locs ls hP hD hS hl
                            refine lv_iload hx hb dX7_runChain_162 (lv_at hl 0 rfl) ?_
                            refine lv_aload_n hx hb dX7_runChain_164 rfl (lv_at hl 4 rfl) ?_
                            refine va_get (D := G.1) (ci := 7) (v := .int (nI (cw - 1))) (C := RX7) (T := TX7) (N := 13) hx hb hts hiX7 hown hY.1 hP 0 rfl rfl 11 (by decide) kf113 (fun _ h9 => h9) rfl dX7_runChain_165 ?_
                            refine lv_icmp_ge (tgt := 193) hx hb dX7_runChain_168 (by decide) (fun h168_22 => ?_) (fun h168_22 => ?_)
                            · obtain rfl : v = (mShL (cw - 1) (cw - 1 - 0 + 1) 0 hw9) := by rw [← hR11]; simp only [mShL, h168_22, ↓reduceIte]
                              refine lv_goto (tgt := 134) hx hb dX7_runChain_193 (by decide) ?_
                              exact ih10 (cw - 1) ((mShL (cw - 1) (cw - 1 - 0 + 1) 0 hw9)) (by have := (mWt_go hwt h146_21).1; omega) (by rw [← hR10]; simp only [mChW, h146_21, ↓reduceIte]) (by have := (mWt_go hwt h146_21).1; omega) (mWt_go hwt h146_21).2 _ _ ls hP hD hS (lv_sub hl [1, 2, 3, 4, 5] rfl)
                            · refine lv_aload_n hx hb dX7_runChain_171 rfl (lv_at hl 4 rfl) ?_
                              refine va_get (D := G.1) (ci := 7) (v := .ref (ad (o+8))) (C := RX7) (T := TX7) (N := 13) hx hb hts hiX7 hown hY.1 hP 0 rfl rfl 10 (by decide) kf39 (fun _ h9 => h9) rfl dX7_runChain_172 ?_
                              refine lv_iload hx hb dX7_runChain_175 (lv_at hl 0 rfl) ?_
                              refine lv_aload_n hx hb dX7_runChain_177 rfl (lv_at hl 4 rfl) ?_
                              refine va_get (D := G.1) (ci := 7) (v := .ref (ad (o+8))) (C := RX7) (T := TX7) (N := 13) hx hb hts hiX7 hown hY.1 hP 0 rfl rfl 10 (by decide) kf39 (fun _ h9 => h9) rfl dX7_runChain_178 ?_
                              refine lv_iload hx hb dX7_runChain_181 (lv_at hl 0 rfl) ?_
                              refine lv_iconst (v := 1) hx hb dX7_runChain_183 (by decide) ?_
                              refine lv_iadd hx hb dX7_runChain_184 ?_
                              refine va_iald hx hb hY.1 hP 8 0 rfl rfl (by rw [← nI_succ]; exact vp_nI (by have := (sh_lt (by omega) hj9 h168_22); omega) (by decide)) dX7_runChain_185 ?_
                              refine va_iast hx hb hY.1 hP hD hS 8 0 rfl rfl (vp_nI (by have := (sh_lt (by omega) hj9 h168_22); omega) (by decide)) dX7_runChain_186 (fun H locs hP hD hS => ?_)
                              have hP : va_P G.1 vwCl (wMo G ad o (r.1, r.2.1, r.2.2.1, r.2.2.2.1, r.2.2.2.2.1, r.2.2.2.2.2.1, r.2.2.2.2.2.2.1, r.2.2.2.2.2.2.2.1, r.2.2.2.2.2.2.2.2.1, r.2.2.2.2.2.2.2.2.2.1, upd v (nI j).toNatClampNeg (v ((nI j) + 1).toNatClampNeg), nI (cw - 1), ((nI n) + 1) + ((r.2.2.2.2.2.2.2.2.1 (((300 * st) + (nI n)) - 1).toNatClampNeg) - (r.2.2.2.2.2.2.2.2.1 (((300 * st) + (nI n)) - 1).toNatClampNeg) / r.2.2.1 * r.2.2.1))) H := hP
                              have hD : va_D A (wMo G ad o (r.1, r.2.1, r.2.2.1, r.2.2.2.1, r.2.2.2.2.1, r.2.2.2.2.2.1, r.2.2.2.2.2.2.1, r.2.2.2.2.2.2.2.1, r.2.2.2.2.2.2.2.2.1, r.2.2.2.2.2.2.2.2.2.1, upd v (nI j).toNatClampNeg (v ((nI j) + 1).toNatClampNeg), nI (cw - 1), ((nI n) + 1) + ((r.2.2.2.2.2.2.2.2.1 (((300 * st) + (nI n)) - 1).toNatClampNeg) - (r.2.2.2.2.2.2.2.2.1 (((300 * st) + (nI n)) - 1).toNatClampNeg) / r.2.2.1 * r.2.2.1))) := hD
                              refine lv_iinc (v := (nI j) + 1) (lv' := [(5, .int ((nI j) + 1)), (4, .int 0), (3, .int (((300 * st) + (nI n)) - 1)), (2, .int (nI n)), (0, .ref (ad o)), (1, .int st)]) hx hb dX7_runChain_187 hl (k := 0) rfl rfl (by decide) rfl (fun ls hl => ?_)
                              rw [show (nI j) + 1 = nI (j+1) from (nI_succ j).symm] at hl
                              refine lv_goto (tgt := 162) hx hb dX7_runChain_190 (by decide) ?_
                              exact ih11 (j+1) (upd v (nI j).toNatClampNeg (v ((nI j) + 1).toNatClampNeg)) (by have := (sh_lt (by omega) hj9 h168_22); omega) (by rw [← hR11]; simp only [mShL, h168_22, ↓reduceIte]) (sh_lt (by omega) hj9 h168_22) _ _ ls hP hD hS (lv_sub hl [0, 1, 2, 3, 4, 5] rfl)
                        exact loop11 (cw - 1 - 0 + 1) 0 hw9 (Nat.lt_succ_self _) rfl (Nat.zero_le _) _ _ ls hP hD hS (lv_sub hl [0, 1, 2, 3, 4, 5] rfl)
                  exact loop10 ((cz + 1) + 1) (cz + 1) (upd h (nI cz).toNatClampNeg (nI n)) (Nat.lt_succ_self _) rfl (by have := (rc_le hmm hm3 (Nat.le_trans hn1.2.1 (Nat.succ_le_succ hm3)) h19_1); omega) (by have q := hT2; simp only [mRcT, h19_1, h43_2, h55_15, eq_true h67_16, eq_true h75_17, eq_true h81_20, ↓reduceIte] at q; exact q.1) _ _ ls hP hD hS (lv_sub hl [0, 1, 2, 3, 4] rfl)
                · exact absurd rfl h81_20
          · refine lv_iconst (v := 1) hx hb dX7_runChain_58 (by decide) ?_
            refine lv_goto (tgt := 63) hx hb dX7_runChain_59 (by decide) ?_
            refine lv_istore (lv' := [(4, .int 1), (3, .int (((300 * st) + (nI n)) - 1)), (2, .int (nI n)), (0, .ref (ad o)), (1, .int st)]) hx hb dX7_runChain_63 hl (by decide) rfl (fun ls hl => ?_)
            refine lv_iload hx hb dX7_runChain_65 (lv_at hl 0 rfl) ?_
            refine lv_if_ne (tgt := 78) hx hb dX7_runChain_67 (by decide) (fun h67_23 => ?_) (fun h67_23 => ?_)
            · refine lv_aload_n hx hb dX7_runChain_78 rfl (lv_at hl 3 rfl) ?_
              refine lv_iload hx hb dX7_runChain_79 (lv_at hl 0 rfl) ?_
              refine lv_if_eq (tgt := 88) hx hb dX7_runChain_81 (by decide) (fun h81_24 => ?_) (fun h81_24 => ?_)
              · exact absurd h81_24 (by decide)
              · refine lv_iconst (v := 0) hx hb dX7_runChain_84 (by decide) ?_
                refine lv_goto (tgt := 92) hx hb dX7_runChain_85 (by decide) ?_
                refine va_put (D := G.1) (ci := 7) (v := .int 0) (ty := .int) (C := RX7) (T := TX7) (N := 13) hx hb hts hiX7 tyX7 tyX7_ok nmX7 hown hY.1 hP hD hS 0 rfl rfl 11 (by decide) kf113 (fun _ h9 => h9) rfl (by decide +kernel) rfl rfl (Nat.le_of_ble_eq_true rfl) dX7_runChain_92 (fun H locs hP hD hS => ?_)
                have hP : va_P G.1 vwCl (wMo G ad o (r.1, r.2.1, r.2.2.1, r.2.2.2.1, r.2.2.2.2.1, r.2.2.2.2.2.1, r.2.2.2.2.2.2.1, r.2.2.2.2.2.2.2.1, r.2.2.2.2.2.2.2.2.1, r.2.2.2.2.2.2.2.2.2.1, h, 0, x)) H := hP
                have hD : va_D A (wMo G ad o (r.1, r.2.1, r.2.2.1, r.2.2.2.1, r.2.2.2.2.1, r.2.2.2.2.2.1, r.2.2.2.2.2.2.1, r.2.2.2.2.2.2.2.1, r.2.2.2.2.2.2.2.2.1, r.2.2.2.2.2.2.2.2.2.1, h, 0, x)) := hD
                refine lv_aload_n hx hb dX7_runChain_95 rfl (lv_at hl 3 rfl) ?_
                refine va_get (D := G.1) (ci := 7) (v := .ref (ad (o+8))) (C := RX7) (T := TX7) (N := 13) hx hb hts hiX7 hown hY.1 hP 0 rfl rfl 10 (by decide) kf39 (fun _ h9 => h9) rfl dX7_runChain_96 ?_
                refine lv_aload_n hx hb dX7_runChain_99 rfl (lv_at hl 3 rfl) ?_
                refine va_get (D := G.1) (ci := 7) (v := .int 0) (C := RX7) (T := TX7) (N := 13) hx hb hts hiX7 hown hY.1 hP 0 rfl rfl 11 (by decide) kf113 (fun _ h9 => h9) rfl dX7_runChain_100 ?_
                refine lv_iload_n hx hb dX7_runChain_103 rfl (lv_at hl 2 rfl) ?_
                refine va_iast hx hb hY.1 hP hD hS 8 0 rfl rfl vp_0_300 dX7_runChain_104 (fun H locs hP hD hS => ?_)
                have hP : va_P G.1 vwCl (wMo G ad o (r.1, r.2.1, r.2.2.1, r.2.2.2.1, r.2.2.2.2.1, r.2.2.2.2.2.1, r.2.2.2.2.2.2.1, r.2.2.2.2.2.2.2.1, r.2.2.2.2.2.2.2.2.1, r.2.2.2.2.2.2.2.2.2.1, upd h (0 : Int32).toNatClampNeg (nI n), 0, x)) H := hP
                have hD : va_D A (wMo G ad o (r.1, r.2.1, r.2.2.1, r.2.2.2.1, r.2.2.2.2.1, r.2.2.2.2.2.1, r.2.2.2.2.2.2.1, r.2.2.2.2.2.2.2.1, r.2.2.2.2.2.2.2.2.1, r.2.2.2.2.2.2.2.2.2.1, upd h (0 : Int32).toNatClampNeg (nI n), 0, x)) := hD
                refine lv_aload_n hx hb dX7_runChain_105 rfl (lv_at hl 3 rfl) ?_
                refine lv_dup hx hb dX7_runChain_106 rfl ?_
                refine va_get (D := G.1) (ci := 7) (v := .int 0) (C := RX7) (T := TX7) (N := 13) hx hb hts hiX7 hown hY.1 hP 0 rfl rfl 11 (by decide) kf113 (fun _ h9 => h9) rfl dX7_runChain_107 ?_
                refine lv_iconst (v := 1) hx hb dX7_runChain_110 (by decide) ?_
                refine lv_iadd hx hb dX7_runChain_111 ?_
                rw [show 0 + 1 = nI 1 from rfl]
                refine va_put (D := G.1) (ci := 7) (v := .int (nI 1)) (ty := .int) (C := RX7) (T := TX7) (N := 13) hx hb hts hiX7 tyX7 tyX7_ok nmX7 hown hY.1 hP hD hS 0 rfl rfl 11 (by decide) kf113 (fun _ h9 => h9) rfl (by decide +kernel) rfl rfl (Nat.le_of_ble_eq_true rfl) dX7_runChain_112 (fun H locs hP hD hS => ?_)
                have hP : va_P G.1 vwCl (wMo G ad o (r.1, r.2.1, r.2.2.1, r.2.2.2.1, r.2.2.2.2.1, r.2.2.2.2.2.1, r.2.2.2.2.2.2.1, r.2.2.2.2.2.2.2.1, r.2.2.2.2.2.2.2.2.1, r.2.2.2.2.2.2.2.2.2.1, upd h (0 : Int32).toNatClampNeg (nI n), nI 1, x)) H := hP
                have hD : va_D A (wMo G ad o (r.1, r.2.1, r.2.2.1, r.2.2.2.1, r.2.2.2.2.1, r.2.2.2.2.2.1, r.2.2.2.2.2.2.1, r.2.2.2.2.2.2.2.1, r.2.2.2.2.2.2.2.2.1, r.2.2.2.2.2.2.2.2.2.1, upd h (0 : Int32).toNatClampNeg (nI n), nI 1, x)) := hD
                refine lv_aload_n hx hb dX7_runChain_115 rfl (lv_at hl 3 rfl) ?_
                refine lv_iload_n hx hb dX7_runChain_116 rfl (lv_at hl 2 rfl) ?_
                refine lv_iconst (v := 1) hx hb dX7_runChain_117 (by decide) ?_
                refine lv_iadd hx hb dX7_runChain_118 ?_
                refine lv_aload_n hx hb dX7_runChain_119 rfl (lv_at hl 3 rfl) ?_
                refine va_get (D := G.1) (ci := 7) (v := .ref (ad (o+6))) (C := RX7) (T := TX7) (N := 13) hx hb hts hiX7 hown hY.1 hP 0 rfl rfl 8 (by decide) kf32 (fun _ h9 => h9) rfl dX7_runChain_120 ?_
                refine lv_iload_n hx hb dX7_runChain_123 rfl (lv_at hl 1 rfl) ?_
                refine va_iald hx hb hY.1 hP 6 0 rfl rfl (hBn n hn1.1 (rc_le hmm hm3 (Nat.le_trans hn1.2.1 (Nat.succ_le_succ hm3)) h19_1)) dX7_runChain_124 ?_
                refine lv_aload_n hx hb dX7_runChain_125 rfl (lv_at hl 3 rfl) ?_
                refine va_get (D := G.1) (ci := 7) (v := .int r.2.2.1) (C := RX7) (T := TX7) (N := 13) hx hb hts hiX7 hown hY.1 hP 0 rfl rfl 2 (by decide) kf13 (fun _ h9 => h9) rfl dX7_runChain_126 ?_
                refine lv_irem hx hb dX7_runChain_129 hw ?_
                refine lv_iadd hx hb dX7_runChain_130 ?_
                refine va_put (D := G.1) (ci := 7) (v := .int (((nI n) + 1) + ((r.2.2.2.2.2.2.2.2.1 (((300 * st) + (nI n)) - 1).toNatClampNeg) - (r.2.2.2.2.2.2.2.2.1 (((300 * st) + (nI n)) - 1).toNatClampNeg) / r.2.2.1 * r.2.2.1))) (ty := .int) (C := RX7) (T := TX7) (N := 13) hx hb hts hiX7 tyX7 tyX7_ok nmX7 hown hY.1 hP hD hS 0 rfl rfl 12 (by decide) kf116 (fun _ h9 => h9) rfl (by decide +kernel) rfl rfl (Nat.le_of_ble_eq_true rfl) dX7_runChain_131 (fun H locs hP hD hS => ?_)
                have hP : va_P G.1 vwCl (wMo G ad o (r.1, r.2.1, r.2.2.1, r.2.2.2.1, r.2.2.2.2.1, r.2.2.2.2.2.1, r.2.2.2.2.2.2.1, r.2.2.2.2.2.2.2.1, r.2.2.2.2.2.2.2.2.1, r.2.2.2.2.2.2.2.2.2.1, upd h (0 : Int32).toNatClampNeg (nI n), nI 1, ((nI n) + 1) + ((r.2.2.2.2.2.2.2.2.1 (((300 * st) + (nI n)) - 1).toNatClampNeg) - (r.2.2.2.2.2.2.2.2.1 (((300 * st) + (nI n)) - 1).toNatClampNeg) / r.2.2.1 * r.2.2.1))) H := hP
                have hD : va_D A (wMo G ad o (r.1, r.2.1, r.2.2.1, r.2.2.2.1, r.2.2.2.2.1, r.2.2.2.2.2.1, r.2.2.2.2.2.2.1, r.2.2.2.2.2.2.2.1, r.2.2.2.2.2.2.2.2.1, r.2.2.2.2.2.2.2.2.2.1, upd h (0 : Int32).toNatClampNeg (nI n), nI 1, ((nI n) + 1) + ((r.2.2.2.2.2.2.2.2.1 (((300 * st) + (nI n)) - 1).toNatClampNeg) - (r.2.2.2.2.2.2.2.2.1 (((300 * st) + (nI n)) - 1).toNatClampNeg) / r.2.2.1 * r.2.2.1))) := hD
                have loop12 : ∀ (fu12 : Nat) (cw : Nat) (hw9 : Nat → Int32), cw < fu12 → mChW r.2.2.1 n fu12 cw hw9 = mChW r.2.2.1 n (1 + 1) 1 (upd h (0 : Int32).toNatClampNeg (nI n)) → cw ≤ 300 → mWt r.2.2.1 n cw hw9 → ∀ (H : Heap) (locs : List Loc) (ls : Array Slot), va_P G.1 vwCl (wMo G ad o (r.1, r.2.1, r.2.2.1, r.2.2.2.1, r.2.2.2.2.1, r.2.2.2.2.2.1, r.2.2.2.2.2.2.1, r.2.2.2.2.2.2.2.1, r.2.2.2.2.2.2.2.2.1, r.2.2.2.2.2.2.2.2.2.1, hw9, nI cw, ((nI n) + 1) + ((r.2.2.2.2.2.2.2.2.1 (((300 * st) + (nI n)) - 1).toNatClampNeg) - (r.2.2.2.2.2.2.2.2.1 (((300 * st) + (nI n)) - 1).toNatClampNeg) / r.2.2.1 * r.2.2.1))) H → va_D A (wMo G ad o (r.1, r.2.1, r.2.2.1, r.2.2.2.1, r.2.2.2.2.1, r.2.2.2.2.2.1, r.2.2.2.2.2.2.1, r.2.2.2.2.2.2.2.1, r.2.2.2.2.2.2.2.2.1, r.2.2.2.2.2.2.2.2.2.1, hw9, nI cw, ((nI n) + 1) + ((r.2.2.2.2.2.2.2.2.1 (((300 * st) + (nI n)) - 1).toNatClampNeg) - (r.2.2.2.2.2.2.2.2.1 (((300 * st) + (nI n)) - 1).toNatClampNeg) / r.2.2.1 * r.2.2.1))) → va_S A s.heap H locs → lv_has ls 6 [(4, .int 1), (3, .int (((300 * st) + (nI n)) - 1)), (2, .int (nI n)), (0, .ref (ad o)), (1, .int st)] → W p l e (headSpec wsX7_runChain { frames := 0, cells := 0, slots := 0, locals := 0 }).room s m ([.ref (ad o), .int st] : List Value).toArray below meth c H locs 0 0 (MQ below (WQ none G (wMo G ad o (r.1, r.2.1, r.2.2.1, r.2.2.2.1, r.2.2.2.2.1, r.2.2.2.2.2.1, r.2.2.2.2.2.2.1, r.2.2.2.2.2.2.2.1, r.2.2.2.2.2.2.2.2.1, r.2.2.2.2.2.2.2.2.2.1, (mRcL r.2.2.1 r.2.2.2.2.2.2.2.1 r.2.2.2.2.2.2.2.2.1 st (r.2.2.2.1 st.toNatClampNeg) (301 - 1 + 1) 1 0 0 r.2.2.2.2.2.2.2.2.2.2.1).2.2, nI (mRcL r.2.2.1 r.2.2.2.2.2.2.2.1 r.2.2.2.2.2.2.2.2.1 st (r.2.2.2.1 st.toNatClampNeg) (301 - 1 + 1) 1 0 0 r.2.2.2.2.2.2.2.2.2.2.1).1, (mRcL r.2.2.1 r.2.2.2.2.2.2.2.1 r.2.2.2.2.2.2.2.2.1 st (r.2.2.2.1 st.toNatClampNeg) (301 - 1 + 1) 1 0 0 r.2.2.2.2.2.2.2.2.2.2.1).2.1)) A) ([.ref (ad o), .int st] : List Value).toArray s 0 0 A) (F0 m 134 ls []) := by
                  intro fu12
                  induction fu12 with
                  | zero => intro cw hw9 hm; exact absurd hm (Nat.not_lt_zero _)
                  | succ fu12 ih12 =>
                    intro cw hw9 hm12 hR12 hc9 hwt H locs ls hP hD hS hl
                    refine lv_aload_n hx hb dX7_runChain_134 rfl (lv_at hl 3 rfl) ?_
                    refine va_get (D := G.1) (ci := 7) (v := .ref (ad (o+8))) (C := RX7) (T := TX7) (N := 13) hx hb hts hiX7 hown hY.1 hP 0 rfl rfl 10 (by decide) kf39 (fun _ h9 => h9) rfl dX7_runChain_135 ?_
                    refine lv_iconst (v := 0) hx hb dX7_runChain_138 (by decide) ?_
                    refine va_iald hx hb hY.1 hP 8 0 rfl rfl vp_0_300 dX7_runChain_139 ?_
                    refine lv_iload_n hx hb dX7_runChain_140 rfl (lv_at hl 2 rfl) ?_
                    refine lv_aload_n hx hb dX7_runChain_141 rfl (lv_at hl 3 rfl) ?_
                    refine va_get (D := G.1) (ci := 7) (v := .int r.2.2.1) (C := RX7) (T := TX7) (N := 13) hx hb hts hiX7 hown hY.1 hP 0 rfl rfl 2 (by decide) kf13 (fun _ h9 => h9) rfl dX7_runChain_142 ?_
                    refine lv_isub hx hb dX7_runChain_145 ?_
                    refine lv_icmp_gt (tgt := 196) hx hb dX7_runChain_146 (by decide) (fun h146_25 => ?_) (fun h146_25 => ?_)
                    · have hOcw : cw = (mChW r.2.2.1 n (1 + 1) 1 (upd h (0 : Int32).toNatClampNeg (nI n))).1 := by rw [← hR12]; simp only [mChW, h146_25, ↓reduceIte]
                      have hOhw9 : hw9 = (mChW r.2.2.1 n (1 + 1) 1 (upd h (0 : Int32).toNatClampNeg (nI n))).2 := by rw [← hR12]; simp only [mChW, h146_25, ↓reduceIte]
                      subst hOcw
                      subst hOhw9
                      refine lv_iinc (v := (nI n) + 1) (lv' := [(2, .int ((nI n) + 1)), (4, .int 1), (3, .int (((300 * st) + (nI n)) - 1)), (0, .ref (ad o)), (1, .int st)]) hx hb dX7_runChain_196 hl (k := 2) rfl rfl (by decide) rfl (fun ls hl => ?_)
                      rw [show (nI n) + 1 = nI (n+1) from (nI_succ n).symm] at hl
                      refine lv_goto (tgt := 12) hx hb dX7_runChain_199 (by decide) ?_
                      exact ih (n+1) ((mChW r.2.2.1 n (1 + 1) 1 (upd h (0 : Int32).toNatClampNeg (nI n))).1) (((nI n) + 1) + ((r.2.2.2.2.2.2.2.2.1 (((300 * st) + (nI n)) - 1).toNatClampNeg) - (r.2.2.2.2.2.2.2.2.1 (((300 * st) + (nI n)) - 1).toNatClampNeg) / r.2.2.1 * r.2.2.1)) ((mChW r.2.2.1 n (1 + 1) 1 (upd h (0 : Int32).toNatClampNeg (nI n))).2) (by have := (rc_le hmm hm3 (Nat.le_trans hn1.2.1 (Nat.succ_le_succ hm3)) h19_1); omega) (by rw [← hR1]; simp only [mRcL, h19_1, h43_2, eq_true h55_15, h67_23, h81_24, ↓reduceIte]) ⟨by omega, Nat.succ_le_succ (rc_le hmm hm3 (Nat.le_trans hn1.2.1 (Nat.succ_le_succ hm3)) h19_1), Nat.lt_succ_of_le (Nat.le_trans mChW_le (by omega))⟩ (by have q := hT2; simp only [mRcT, h19_1, h43_2, eq_true h55_15, h67_23, h81_24, ↓reduceIte] at q; exact q.2) _ _ ls hP hD hS (lv_sub hl [0, 3, 4] rfl)
                    · refine lv_aload_n hx hb dX7_runChain_149 rfl (lv_at hl 3 rfl) ?_
                      refine lv_dup hx hb dX7_runChain_150 rfl ?_
                      refine va_get (D := G.1) (ci := 7) (v := .int (nI cw)) (C := RX7) (T := TX7) (N := 13) hx hb hts hiX7 hown hY.1 hP 0 rfl rfl 11 (by decide) kf113 (fun _ h9 => h9) rfl dX7_runChain_151 ?_
                      refine lv_iconst (v := 1) hx hb dX7_runChain_154 (by decide) ?_
                      refine lv_isub hx hb dX7_runChain_155 ?_
                      rw [show (nI cw) - 1 = nI (cw - 1) from nI_m1 (mWt_go hwt h146_25).1]
                      refine va_put (D := G.1) (ci := 7) (v := .int (nI (cw - 1))) (ty := .int) (C := RX7) (T := TX7) (N := 13) hx hb hts hiX7 tyX7 tyX7_ok nmX7 hown hY.1 hP hD hS 0 rfl rfl 11 (by decide) kf113 (fun _ h9 => h9) rfl (by decide +kernel) rfl rfl (Nat.le_of_ble_eq_true rfl) dX7_runChain_156 (fun H locs hP hD hS => ?_)
                      have hP : va_P G.1 vwCl (wMo G ad o (r.1, r.2.1, r.2.2.1, r.2.2.2.1, r.2.2.2.2.1, r.2.2.2.2.2.1, r.2.2.2.2.2.2.1, r.2.2.2.2.2.2.2.1, r.2.2.2.2.2.2.2.2.1, r.2.2.2.2.2.2.2.2.2.1, hw9, nI (cw - 1), ((nI n) + 1) + ((r.2.2.2.2.2.2.2.2.1 (((300 * st) + (nI n)) - 1).toNatClampNeg) - (r.2.2.2.2.2.2.2.2.1 (((300 * st) + (nI n)) - 1).toNatClampNeg) / r.2.2.1 * r.2.2.1))) H := hP
                      have hD : va_D A (wMo G ad o (r.1, r.2.1, r.2.2.1, r.2.2.2.1, r.2.2.2.2.1, r.2.2.2.2.2.1, r.2.2.2.2.2.2.1, r.2.2.2.2.2.2.2.1, r.2.2.2.2.2.2.2.2.1, r.2.2.2.2.2.2.2.2.2.1, hw9, nI (cw - 1), ((nI n) + 1) + ((r.2.2.2.2.2.2.2.2.1 (((300 * st) + (nI n)) - 1).toNatClampNeg) - (r.2.2.2.2.2.2.2.2.1 (((300 * st) + (nI n)) - 1).toNatClampNeg) / r.2.2.1 * r.2.2.1))) := hD
                      refine lv_iconst (v := 0) hx hb dX7_runChain_159 (by decide) ?_
                      refine lv_istore (lv' := [(5, .int 0), (4, .int 1), (3, .int (((300 * st) + (nI n)) - 1)), (2, .int (nI n)), (0, .ref (ad o)), (1, .int st)]) hx hb dX7_runChain_160 hl (by decide) rfl (fun ls hl => ?_)
                      have loop13 : ∀ (fu13 : Nat) (j : Nat) (v : Nat → Int32), cw - 1 - j < fu13 → mShL (cw - 1) fu13 j v = mShL (cw - 1) (cw - 1 - 0 + 1) 0 hw9 → j ≤ cw - 1 → ∀ (H : Heap) (locs : List Loc) (ls : Array Slot), va_P G.1 vwCl (wMo G ad o (r.1, r.2.1, r.2.2.1, r.2.2.2.1, r.2.2.2.2.1, r.2.2.2.2.2.1, r.2.2.2.2.2.2.1, r.2.2.2.2.2.2.2.1, r.2.2.2.2.2.2.2.2.1, r.2.2.2.2.2.2.2.2.2.1, v, nI (cw - 1), ((nI n) + 1) + ((r.2.2.2.2.2.2.2.2.1 (((300 * st) + (nI n)) - 1).toNatClampNeg) - (r.2.2.2.2.2.2.2.2.1 (((300 * st) + (nI n)) - 1).toNatClampNeg) / r.2.2.1 * r.2.2.1))) H → va_D A (wMo G ad o (r.1, r.2.1, r.2.2.1, r.2.2.2.1, r.2.2.2.2.1, r.2.2.2.2.2.1, r.2.2.2.2.2.2.1, r.2.2.2.2.2.2.2.1, r.2.2.2.2.2.2.2.2.1, r.2.2.2.2.2.2.2.2.2.1, v, nI (cw - 1), ((nI n) + 1) + ((r.2.2.2.2.2.2.2.2.1 (((300 * st) + (nI n)) - 1).toNatClampNeg) - (r.2.2.2.2.2.2.2.2.1 (((300 * st) + (nI n)) - 1).toNatClampNeg) / r.2.2.1 * r.2.2.1))) → va_S A s.heap H locs → lv_has ls 6 [(5, .int (nI j)), (4, .int 1), (3, .int (((300 * st) + (nI n)) - 1)), (2, .int (nI n)), (0, .ref (ad o)), (1, .int st)] → W p l e (headSpec wsX7_runChain { frames := 0, cells := 0, slots := 0, locals := 0 }).room s m ([.ref (ad o), .int st] : List Value).toArray below meth c H locs 0 0 (MQ below (WQ none G (wMo G ad o (r.1, r.2.1, r.2.2.1, r.2.2.2.1, r.2.2.2.2.1, r.2.2.2.2.2.1, r.2.2.2.2.2.2.1, r.2.2.2.2.2.2.2.1, r.2.2.2.2.2.2.2.2.1, r.2.2.2.2.2.2.2.2.2.1, (mRcL r.2.2.1 r.2.2.2.2.2.2.2.1 r.2.2.2.2.2.2.2.2.1 st (r.2.2.2.1 st.toNatClampNeg) (301 - 1 + 1) 1 0 0 r.2.2.2.2.2.2.2.2.2.2.1).2.2, nI (mRcL r.2.2.1 r.2.2.2.2.2.2.2.1 r.2.2.2.2.2.2.2.2.1 st (r.2.2.2.1 st.toNatClampNeg) (301 - 1 + 1) 1 0 0 r.2.2.2.2.2.2.2.2.2.2.1).1, (mRcL r.2.2.1 r.2.2.2.2.2.2.2.1 r.2.2.2.2.2.2.2.2.1 st (r.2.2.2.1 st.toNatClampNeg) (301 - 1 + 1) 1 0 0 r.2.2.2.2.2.2.2.2.2.2.1).2.1)) A) ([.ref (ad o), .int st] : List Value).toArray s 0 0 A) (F0 m 162 ls []) := by
                        intro fu13
                        induction fu13 with
                        | zero => intro j v hm; exact absurd hm (Nat.not_lt_zero _)
                        | succ fu13 ih13 =>
                          intro j v hm13 hR13 hj9 H locs ls hP hD hS hl
                          refine lv_iload hx hb dX7_runChain_162 (lv_at hl 0 rfl) ?_
                          refine lv_aload_n hx hb dX7_runChain_164 rfl (lv_at hl 4 rfl) ?_
                          refine va_get (D := G.1) (ci := 7) (v := .int (nI (cw - 1))) (C := RX7) (T := TX7) (N := 13) hx hb hts hiX7 hown hY.1 hP 0 rfl rfl 11 (by decide) kf113 (fun _ h9 => h9) rfl dX7_runChain_165 ?_
                          refine lv_icmp_ge (tgt := 193) hx hb dX7_runChain_168 (by decide) (fun h168_26 => ?_) (fun h168_26 => ?_)
                          · obtain rfl : v = (mShL (cw - 1) (cw - 1 - 0 + 1) 0 hw9) := by rw [← hR13]; simp only [mShL, h168_26, ↓reduceIte]
                            refine lv_goto (tgt := 134) hx hb dX7_runChain_193 (by decide) ?_
                            exact ih12 (cw - 1) ((mShL (cw - 1) (cw - 1 - 0 + 1) 0 hw9)) (by have := (mWt_go hwt h146_25).1; omega) (by rw [← hR12]; simp only [mChW, h146_25, ↓reduceIte]) (by have := (mWt_go hwt h146_25).1; omega) (mWt_go hwt h146_25).2 _ _ ls hP hD hS (lv_sub hl [1, 2, 3, 4, 5] rfl)
                          · refine lv_aload_n hx hb dX7_runChain_171 rfl (lv_at hl 4 rfl) ?_
                            refine va_get (D := G.1) (ci := 7) (v := .ref (ad (o+8))) (C := RX7) (T := TX7) (N := 13) hx hb hts hiX7 hown hY.1 hP 0 rfl rfl 10 (by decide) kf39 (fun _ h9 => h9) rfl dX7_runChain_172 ?_
                            refine lv_iload hx hb dX7_runChain_175 (lv_at hl 0 rfl) ?_
                            refine lv_aload_n hx hb dX7_runChain_177 rfl (lv_at hl 4 rfl) ?_
                            refine va_get (D := G.1) (ci := 7) (v := .ref (ad (o+8))) (C := RX7) (T := TX7) (N := 13) hx hb hts hiX7 hown hY.1 hP 0 rfl rfl 10 (by decide) kf39 (fun _ h9 => h9) rfl dX7_runChain_178 ?_
                            refine lv_iload hx hb dX7_runChain_181 (lv_at hl 0 rfl) ?_
                            refine lv_iconst (v := 1) hx hb dX7_runChain_183 (by decide) ?_
                            refine lv_iadd hx hb dX7_runChain_184 ?_
                            refine va_iald hx hb hY.1 hP 8 0 rfl rfl (by rw [← nI_succ]; exact vp_nI (by have := (sh_lt (by omega) hj9 h168_26); omega) (by decide)) dX7_runChain_185 ?_
                            refine va_iast hx hb hY.1 hP hD hS 8 0 rfl rfl (vp_nI (by have := (sh_lt (by omega) hj9 h168_26); omega) (by decide)) dX7_runChain_186 (fun H locs hP hD hS => ?_)
                            have hP : va_P G.1 vwCl (wMo G ad o (r.1, r.2.1, r.2.2.1, r.2.2.2.1, r.2.2.2.2.1, r.2.2.2.2.2.1, r.2.2.2.2.2.2.1, r.2.2.2.2.2.2.2.1, r.2.2.2.2.2.2.2.2.1, r.2.2.2.2.2.2.2.2.2.1, upd v (nI j).toNatClampNeg (v ((nI j) + 1).toNatClampNeg), nI (cw - 1), ((nI n) + 1) + ((r.2.2.2.2.2.2.2.2.1 (((300 * st) + (nI n)) - 1).toNatClampNeg) - (r.2.2.2.2.2.2.2.2.1 (((300 * st) + (nI n)) - 1).toNatClampNeg) / r.2.2.1 * r.2.2.1))) H := hP
                            have hD : va_D A (wMo G ad o (r.1, r.2.1, r.2.2.1, r.2.2.2.1, r.2.2.2.2.1, r.2.2.2.2.2.1, r.2.2.2.2.2.2.1, r.2.2.2.2.2.2.2.1, r.2.2.2.2.2.2.2.2.1, r.2.2.2.2.2.2.2.2.2.1, upd v (nI j).toNatClampNeg (v ((nI j) + 1).toNatClampNeg), nI (cw - 1), ((nI n) + 1) + ((r.2.2.2.2.2.2.2.2.1 (((300 * st) + (nI n)) - 1).toNatClampNeg) - (r.2.2.2.2.2.2.2.2.1 (((300 * st) + (nI n)) - 1).toNatClampNeg) / r.2.2.1 * r.2.2.1))) := hD
                            refine lv_iinc (v := (nI j) + 1) (lv' := [(5, .int ((nI j) + 1)), (4, .int 1), (3, .int (((300 * st) + (nI n)) - 1)), (2, .int (nI n)), (0, .ref (ad o)), (1, .int st)]) hx hb dX7_runChain_187 hl (k := 0) rfl rfl (by decide) rfl (fun ls hl => ?_)
                            rw [show (nI j) + 1 = nI (j+1) from (nI_succ j).symm] at hl
                            refine lv_goto (tgt := 162) hx hb dX7_runChain_190 (by decide) ?_
                            exact ih13 (j+1) (upd v (nI j).toNatClampNeg (v ((nI j) + 1).toNatClampNeg)) (by have := (sh_lt (by omega) hj9 h168_26); omega) (by rw [← hR13]; simp only [mShL, h168_26, ↓reduceIte]) (sh_lt (by omega) hj9 h168_26) _ _ ls hP hD hS (lv_sub hl [0, 1, 2, 3, 4, 5] rfl)
                      exact loop13 (cw - 1 - 0 + 1) 0 hw9 (Nat.lt_succ_self _) rfl (Nat.zero_le _) _ _ ls hP hD hS (lv_sub hl [0, 1, 2, 3, 4, 5] rfl)
                exact loop12 (1 + 1) 1 (upd h (0 : Int32).toNatClampNeg (nI n)) (Nat.lt_succ_self _) rfl (by have := (rc_le hmm hm3 (Nat.le_trans hn1.2.1 (Nat.succ_le_succ hm3)) h19_1); omega) (by have q := hT2; simp only [mRcT, h19_1, h43_2, eq_true h55_15, h67_23, h81_24, ↓reduceIte] at q; exact q.1) _ _ ls hP hD hS (lv_sub hl [0, 1, 2, 3, 4] rfl)
            · exact absurd h67_23 (by decide)
  exact loop1 (301 - 1 + 1) 1 0 0 r.2.2.2.2.2.2.2.2.2.2.1 (Nat.lt_succ_self _) rfl ⟨Nat.le_refl 1, by omega, Nat.one_pos⟩ hT _ _ ls hP hD hS (lv_sub hl [0, 1, 2] rfl)
