set_option maxHeartbeats 4000000 in
set_option maxRecDepth 100000 in
theorem k_X7_offer (l : Launch) (G : GT) (ad : Nat → Nat) (o : Nat) (r : MoT) (st ia wa gr fa sa : Int32) (h0 : okA st 0 1) (h1 : okA ia 0 1000000) (h2 : okA wa 1 1000000) (h3 : okA gr 0 3) (h4 : okA fa 0 2147483647) (h5 : okA sa 0 2147483647) (hc : ¬ r.2.2.2.1 st.toNatClampNeg = 300) (hat : vp_in ((300 * st) + (r.2.2.2.1 st.toNatClampNeg)) 600) : Wr l yX7_offer wsX7_offer { frames := 1, cells := 0, slots := 0, locals := 22 } G (wMo G ad o r) (wMo G ad o (0, r.2.1, r.2.2.1, upd r.2.2.2.1 st.toNatClampNeg (r.2.2.2.1 st.toNatClampNeg + 1), upd r.2.2.2.2.1 ((300 * st) + (r.2.2.2.1 st.toNatClampNeg)).toNatClampNeg ia, upd r.2.2.2.2.2.1 ((300 * st) + (r.2.2.2.1 st.toNatClampNeg)).toNatClampNeg wa, upd r.2.2.2.2.2.2.1 ((300 * st) + (r.2.2.2.1 st.toNatClampNeg)).toNatClampNeg gr, upd r.2.2.2.2.2.2.2.1 ((300 * st) + (r.2.2.2.1 st.toNatClampNeg)).toNatClampNeg fa, upd r.2.2.2.2.2.2.2.2.1 ((300 * st) + (r.2.2.2.1 st.toNatClampNeg)).toNatClampNeg sa, r.2.2.2.2.2.2.2.2.2.1, r.2.2.2.2.2.2.2.2.2.2.1, r.2.2.2.2.2.2.2.2.2.2.2.1, r.2.2.2.2.2.2.2.2.2.2.2.2)) [.ref (ad o), .int st, .int ia, .int wa, .int gr, .int fa, .int sa] (some (.int ((upd r.2.2.2.1 st.toNatClampNeg (r.2.2.2.1 st.toNatClampNeg + 1)) st.toNatClampNeg))) := by
  intro sz
  refine Met.ofW (cc := cX7_offer) (maxL := 9) (ret := (some .int)) (by decide) rfl ?_
  intro p e s m args below meth c s₁ B hml hv
  obtain ⟨rfl, hsz, hP, hY, hD0⟩ := hv
  subst hsz
  have hD := hD0.self (sz := s.heap.size)
  generalize hAe : va_A (wMo G ad o r) s.heap.size = A at hD ⊢
  have hA : ∀ q : Nat, s.heap.size ≤ q → A q := fun q h => by rw [← hAe]; exact Or.inr h
  have hS : va_S A s.heap s.heap [] := va_S.rf
  have hx := B.exec
  have hb := B.bytes
  have hr := B.returns
  have hts := atoms_spec (ws := wsX7_offer) B.pre
  have hown : s.vm.findClass RX7 = some m.cls := findClass_of_methodNamed B.named
  have hlk := B.notSynchronized
  have CF : CallFix p m c cX7_offer 9 s _ wsX7_offer RX7 := ⟨hx, hb, hml, hown, hts⟩
  have kc53 := hts (.constant RX7 53 (1000000)) (List.mem_cons_of_mem _ (List.mem_append_left _ (List.mem_of_getElem? (i := 0) rfl)))
  have hiX7 : ∀ w ∈ wsX70, w ∈ wsX7_offer := fun w h => (List.mem_cons_of_mem _ (List.mem_append_right _ h))
  have kf16 := hts (.fieldLink RX7 16 "ReservoirReedModel" "many" "[I") (List.mem_cons_of_mem _ (List.mem_append_left _ (List.mem_of_getElem? (i := 1) rfl)))
  have kf20 := hts (.fieldLink RX7 20 "ReservoirReedModel" "items" "[I") (List.mem_cons_of_mem _ (List.mem_append_left _ (List.mem_of_getElem? (i := 2) rfl)))
  have kf23 := hts (.fieldLink RX7 23 "ReservoirReedModel" "weights" "[I") (List.mem_cons_of_mem _ (List.mem_append_left _ (List.mem_of_getElem? (i := 3) rfl)))
  have kf26 := hts (.fieldLink RX7 26 "ReservoirReedModel" "groups" "[I") (List.mem_cons_of_mem _ (List.mem_append_left _ (List.mem_of_getElem? (i := 4) rfl)))
  have kf29 := hts (.fieldLink RX7 29 "ReservoirReedModel" "firsts" "[I") (List.mem_cons_of_mem _ (List.mem_append_left _ (List.mem_of_getElem? (i := 5) rfl)))
  have kf32 := hts (.fieldLink RX7 32 "ReservoirReedModel" "seconds" "[I") (List.mem_cons_of_mem _ (List.mem_append_left _ (List.mem_of_getElem? (i := 6) rfl)))
  have hl := lv_entry ([.ref (ad o), .int st, .int ia, .int wa, .int gr, .int fa, .int sa]) (n := 9) (Nat.le_of_ble_eq_true rfl)
  rw [lg_entry_eq]
  generalize (lg_sl ([.ref (ad o), .int st, .int ia, .int wa, .int gr, .int fa, .int sa]) ++ List.replicate (9 - (lg_sl ([.ref (ad o), .int st, .int ia, .int wa, .int gr, .int fa, .int sa])).length) Slot.unset).toArray = ls at hl ⊢
  have hl : lv_has ls 9 [(0, .ref (ad o)), (1, .int st), (2, .int ia), (3, .int wa), (4, .int gr), (5, .int fa), (6, .int sa)] := hl
  refine lv_iload_n hx hb dX7_offer_0 rfl (lv_at hl 1 rfl) ?_
  refine lv_iconst (v := 0) hx hb dX7_offer_1 (by decide) ?_
  refine lv_iconst (v := 1) hx hb dX7_offer_2 (by decide) ?_
  refine rdS (w0 := ([] : va_W)) (As := [.int st, .int 0, .int 1]) (rest := []) CF (k_X7_in l G st 0 1 h0) (va_cwS 3 hts gX7_offer_X7_in rfl rfl rfl (by decide +kernel) ⟨Nat.le_of_ble_eq_true rfl, Nat.le_of_ble_eq_true rfl⟩) va_P_nil hY rfl hl.1 rfl (lv_room (Nat.le_of_ble_eq_true rfl)) dX7_offer_3 ⟨Nat.zero_le _, Nat.zero_le _⟩ ?_
  refine lv_if_eq (tgt := 53) hx hb dX7_offer_6 (by decide) (fun h6_1 => ?_) (fun h6_1 => ?_)
  · exact absurd h6_1 (by decide)
  · refine lv_iload_n hx hb dX7_offer_9 rfl (lv_at hl 2 rfl) ?_
    refine lv_iconst (v := 0) hx hb dX7_offer_10 (by decide) ?_
    refine lv_ldc hx hb hown kc53 dX7_offer_11 ?_
    refine rdS (w0 := ([] : va_W)) (As := [.int ia, .int 0, .int 1000000]) (rest := []) CF (k_X7_in l G ia 0 1000000 h1) (va_cwS 3 hts gX7_offer_X7_in rfl rfl rfl (by decide +kernel) ⟨Nat.le_of_ble_eq_true rfl, Nat.le_of_ble_eq_true rfl⟩) va_P_nil hY rfl hl.1 rfl (lv_room (Nat.le_of_ble_eq_true rfl)) dX7_offer_13 ⟨Nat.zero_le _, Nat.zero_le _⟩ ?_
    refine lv_if_eq (tgt := 53) hx hb dX7_offer_16 (by decide) (fun h16_2 => ?_) (fun h16_2 => ?_)
    · exact absurd h16_2 (by decide)
    · refine lv_iload_n hx hb dX7_offer_19 rfl (lv_at hl 3 rfl) ?_
      refine lv_iconst (v := 1) hx hb dX7_offer_20 (by decide) ?_
      refine lv_ldc hx hb hown kc53 dX7_offer_21 ?_
      refine rdS (w0 := ([] : va_W)) (As := [.int wa, .int 1, .int 1000000]) (rest := []) CF (k_X7_in l G wa 1 1000000 h2) (va_cwS 3 hts gX7_offer_X7_in rfl rfl rfl (by decide +kernel) ⟨Nat.le_of_ble_eq_true rfl, Nat.le_of_ble_eq_true rfl⟩) va_P_nil hY rfl hl.1 rfl (lv_room (Nat.le_of_ble_eq_true rfl)) dX7_offer_23 ⟨Nat.zero_le _, Nat.zero_le _⟩ ?_
      refine lv_if_eq (tgt := 53) hx hb dX7_offer_26 (by decide) (fun h26_3 => ?_) (fun h26_3 => ?_)
      · exact absurd h26_3 (by decide)
      · refine lv_iload hx hb dX7_offer_29 (lv_at hl 4 rfl) ?_
        refine lv_iconst (v := 0) hx hb dX7_offer_31 (by decide) ?_
        refine lv_iconst (v := 3) hx hb dX7_offer_32 (by decide) ?_
        refine rdS (w0 := ([] : va_W)) (As := [.int gr, .int 0, .int 3]) (rest := []) CF (k_X7_in l G gr 0 3 h3) (va_cwS 3 hts gX7_offer_X7_in rfl rfl rfl (by decide +kernel) ⟨Nat.le_of_ble_eq_true rfl, Nat.le_of_ble_eq_true rfl⟩) va_P_nil hY rfl hl.1 rfl (lv_room (Nat.le_of_ble_eq_true rfl)) dX7_offer_33 ⟨Nat.zero_le _, Nat.zero_le _⟩ ?_
        refine lv_if_eq (tgt := 53) hx hb dX7_offer_36 (by decide) (fun h36_4 => ?_) (fun h36_4 => ?_)
        · exact absurd h36_4 (by decide)
        · refine lv_iload hx hb dX7_offer_39 (lv_at hl 5 rfl) ?_
          refine lv_if_lt (tgt := 53) hx hb dX7_offer_41 (by decide) (fun h41_5 => ?_) (fun h41_5 => ?_)
          · exact absurd h41_5 h4.1
          · refine lv_iload hx hb dX7_offer_44 (lv_at hl 6 rfl) ?_
            refine lv_if_lt (tgt := 53) hx hb dX7_offer_46 (by decide) (fun h46_6 => ?_) (fun h46_6 => ?_)
            · exact absurd h46_6 h5.1
            · refine lv_iconst (v := 1) hx hb dX7_offer_49 (by decide) ?_
              refine lv_goto (tgt := 54) hx hb dX7_offer_50 (by decide) ?_
              refine lv_istore (lv' := [(7, .int 1), (0, .ref (ad o)), (1, .int st), (2, .int ia), (3, .int wa), (4, .int gr), (5, .int fa), (6, .int sa)]) hx hb dX7_offer_54 hl (by decide) rfl (fun ls hl => ?_)
              refine lv_aload_n hx hb dX7_offer_56 rfl (lv_at hl 1 rfl) ?_
              refine lv_iload hx hb dX7_offer_57 (lv_at hl 0 rfl) ?_
              refine lv_if_ne (tgt := 66) hx hb dX7_offer_59 (by decide) (fun h59_7 => ?_) (fun h59_7 => ?_)
              · refine lv_aload_n hx hb dX7_offer_66 rfl (lv_at hl 1 rfl) ?_
                refine va_get (D := G.1) (ci := 7) (v := .ref (ad (o+1))) (C := RX7) (T := TX7) (N := 13) hx hb hts hiX7 hown hY.1 hP 0 rfl rfl 3 (by decide) kf16 (fun _ h9 => h9) rfl dX7_offer_67 ?_
                refine lv_iload_n hx hb dX7_offer_70 rfl (lv_at hl 2 rfl) ?_
                refine va_iald hx hb hY.1 hP 1 0 rfl rfl (vp_st1 h0) dX7_offer_71 ?_
                refine lv_sipush (v := 300) hx hb dX7_offer_72 (by decide) ?_
                refine lv_icmp_ne (tgt := 82) hx hb dX7_offer_75 (by decide) (fun h75_8 => ?_) (fun h75_8 => ?_)
                · refine lv_iconst (v := 0) hx hb dX7_offer_82 (by decide) ?_
                  refine wrV [] (wMo G ad o r) [] (wMo G ad o (0, r.2)) (As := [.int 0]) (rest := []) CF (k0_X7_refused l G ad o r 0 rfl) (cwV 1 hts gX7_offer_X7_refused rfl rfl rfl (by decide +kernel) ⟨Nat.le_of_ble_eq_true rfl, Nat.le_of_ble_eq_true rfl⟩) hP hD hS hA hY rfl rfl (fst_Mo _ _ _ _ _) rfl hl.1 rfl (lv_room (Nat.le_of_ble_eq_true rfl)) dX7_offer_83 ⟨Nat.zero_le _, Nat.zero_le _⟩ (fun H locs hP hD hS => ?_)
                  have hP : va_P G.1 vwCl (wMo G ad o (0, r.2.1, r.2.2.1, r.2.2.2.1, r.2.2.2.2.1, r.2.2.2.2.2.1, r.2.2.2.2.2.2.1, r.2.2.2.2.2.2.2.1, r.2.2.2.2.2.2.2.2.1, r.2.2.2.2.2.2.2.2.2.1, r.2.2.2.2.2.2.2.2.2.2.1, r.2.2.2.2.2.2.2.2.2.2.2.1, r.2.2.2.2.2.2.2.2.2.2.2.2)) H := hP
                  have hD : va_D A (wMo G ad o (0, r.2.1, r.2.2.1, r.2.2.2.1, r.2.2.2.2.1, r.2.2.2.2.2.1, r.2.2.2.2.2.2.1, r.2.2.2.2.2.2.2.1, r.2.2.2.2.2.2.2.2.1, r.2.2.2.2.2.2.2.2.2.1, r.2.2.2.2.2.2.2.2.2.2.1, r.2.2.2.2.2.2.2.2.2.2.2.1, r.2.2.2.2.2.2.2.2.2.2.2.2)) := hD
                  refine lv_if_eq (tgt := 91) hx hb dX7_offer_86 (by decide) (fun h86_9 => ?_) (fun h86_9 => ?_)
                  · refine lv_sipush (v := 300) hx hb dX7_offer_91 (by decide) ?_
                    refine lv_iload_n hx hb dX7_offer_94 rfl (lv_at hl 2 rfl) ?_
                    refine lv_imul hx hb dX7_offer_95 ?_
                    refine lv_aload_n hx hb dX7_offer_96 rfl (lv_at hl 1 rfl) ?_
                    refine va_get (D := G.1) (ci := 7) (v := .ref (ad (o+1))) (C := RX7) (T := TX7) (N := 13) hx hb hts hiX7 hown hY.1 hP 0 rfl rfl 3 (by decide) kf16 (fun _ h9 => h9) rfl dX7_offer_97 ?_
                    refine lv_iload_n hx hb dX7_offer_100 rfl (lv_at hl 2 rfl) ?_
                    refine va_iald hx hb hY.1 hP 1 0 rfl rfl (vp_st1 h0) dX7_offer_101 ?_
                    refine lv_iadd hx hb dX7_offer_102 ?_
                    refine lv_istore (lv' := [(8, .int ((300 * st) + (r.2.2.2.1 st.toNatClampNeg))), (7, .int 1), (0, .ref (ad o)), (1, .int st), (2, .int ia), (3, .int wa), (4, .int gr), (5, .int fa), (6, .int sa)]) hx hb dX7_offer_103 hl (by decide) rfl (fun ls hl => ?_)
                    refine lv_aload_n hx hb dX7_offer_105 rfl (lv_at hl 2 rfl) ?_
                    refine va_get (D := G.1) (ci := 7) (v := .ref (ad (o+2))) (C := RX7) (T := TX7) (N := 13) hx hb hts hiX7 hown hY.1 hP 0 rfl rfl 4 (by decide) kf20 (fun _ h9 => h9) rfl dX7_offer_106 ?_
                    refine lv_iload hx hb dX7_offer_109 (lv_at hl 0 rfl) ?_
                    refine lv_iload_n hx hb dX7_offer_111 rfl (lv_at hl 4 rfl) ?_
                    refine va_iast hx hb hY.1 hP hD hS 2 0 rfl rfl hat dX7_offer_112 (fun H locs hP hD hS => ?_)
                    have hP : va_P G.1 vwCl (wMo G ad o (0, r.2.1, r.2.2.1, r.2.2.2.1, upd r.2.2.2.2.1 ((300 * st) + (r.2.2.2.1 st.toNatClampNeg)).toNatClampNeg ia, r.2.2.2.2.2.1, r.2.2.2.2.2.2.1, r.2.2.2.2.2.2.2.1, r.2.2.2.2.2.2.2.2.1, r.2.2.2.2.2.2.2.2.2.1, r.2.2.2.2.2.2.2.2.2.2.1, r.2.2.2.2.2.2.2.2.2.2.2.1, r.2.2.2.2.2.2.2.2.2.2.2.2)) H := hP
                    have hD : va_D A (wMo G ad o (0, r.2.1, r.2.2.1, r.2.2.2.1, upd r.2.2.2.2.1 ((300 * st) + (r.2.2.2.1 st.toNatClampNeg)).toNatClampNeg ia, r.2.2.2.2.2.1, r.2.2.2.2.2.2.1, r.2.2.2.2.2.2.2.1, r.2.2.2.2.2.2.2.2.1, r.2.2.2.2.2.2.2.2.2.1, r.2.2.2.2.2.2.2.2.2.2.1, r.2.2.2.2.2.2.2.2.2.2.2.1, r.2.2.2.2.2.2.2.2.2.2.2.2)) := hD
                    refine lv_aload_n hx hb dX7_offer_113 rfl (lv_at hl 2 rfl) ?_
                    refine va_get (D := G.1) (ci := 7) (v := .ref (ad (o+3))) (C := RX7) (T := TX7) (N := 13) hx hb hts hiX7 hown hY.1 hP 0 rfl rfl 5 (by decide) kf23 (fun _ h9 => h9) rfl dX7_offer_114 ?_
                    refine lv_iload hx hb dX7_offer_117 (lv_at hl 0 rfl) ?_
                    refine lv_iload_n hx hb dX7_offer_119 rfl (lv_at hl 5 rfl) ?_
                    refine va_iast hx hb hY.1 hP hD hS 3 0 rfl rfl hat dX7_offer_120 (fun H locs hP hD hS => ?_)
                    have hP : va_P G.1 vwCl (wMo G ad o (0, r.2.1, r.2.2.1, r.2.2.2.1, upd r.2.2.2.2.1 ((300 * st) + (r.2.2.2.1 st.toNatClampNeg)).toNatClampNeg ia, upd r.2.2.2.2.2.1 ((300 * st) + (r.2.2.2.1 st.toNatClampNeg)).toNatClampNeg wa, r.2.2.2.2.2.2.1, r.2.2.2.2.2.2.2.1, r.2.2.2.2.2.2.2.2.1, r.2.2.2.2.2.2.2.2.2.1, r.2.2.2.2.2.2.2.2.2.2.1, r.2.2.2.2.2.2.2.2.2.2.2.1, r.2.2.2.2.2.2.2.2.2.2.2.2)) H := hP
                    have hD : va_D A (wMo G ad o (0, r.2.1, r.2.2.1, r.2.2.2.1, upd r.2.2.2.2.1 ((300 * st) + (r.2.2.2.1 st.toNatClampNeg)).toNatClampNeg ia, upd r.2.2.2.2.2.1 ((300 * st) + (r.2.2.2.1 st.toNatClampNeg)).toNatClampNeg wa, r.2.2.2.2.2.2.1, r.2.2.2.2.2.2.2.1, r.2.2.2.2.2.2.2.2.1, r.2.2.2.2.2.2.2.2.2.1, r.2.2.2.2.2.2.2.2.2.2.1, r.2.2.2.2.2.2.2.2.2.2.2.1, r.2.2.2.2.2.2.2.2.2.2.2.2)) := hD
                    refine lv_aload_n hx hb dX7_offer_121 rfl (lv_at hl 2 rfl) ?_
                    refine va_get (D := G.1) (ci := 7) (v := .ref (ad (o+4))) (C := RX7) (T := TX7) (N := 13) hx hb hts hiX7 hown hY.1 hP 0 rfl rfl 6 (by decide) kf26 (fun _ h9 => h9) rfl dX7_offer_122 ?_
                    refine lv_iload hx hb dX7_offer_125 (lv_at hl 0 rfl) ?_
                    refine lv_iload hx hb dX7_offer_127 (lv_at hl 6 rfl) ?_
                    refine va_iast hx hb hY.1 hP hD hS 4 0 rfl rfl hat dX7_offer_129 (fun H locs hP hD hS => ?_)
                    have hP : va_P G.1 vwCl (wMo G ad o (0, r.2.1, r.2.2.1, r.2.2.2.1, upd r.2.2.2.2.1 ((300 * st) + (r.2.2.2.1 st.toNatClampNeg)).toNatClampNeg ia, upd r.2.2.2.2.2.1 ((300 * st) + (r.2.2.2.1 st.toNatClampNeg)).toNatClampNeg wa, upd r.2.2.2.2.2.2.1 ((300 * st) + (r.2.2.2.1 st.toNatClampNeg)).toNatClampNeg gr, r.2.2.2.2.2.2.2.1, r.2.2.2.2.2.2.2.2.1, r.2.2.2.2.2.2.2.2.2.1, r.2.2.2.2.2.2.2.2.2.2.1, r.2.2.2.2.2.2.2.2.2.2.2.1, r.2.2.2.2.2.2.2.2.2.2.2.2)) H := hP
                    have hD : va_D A (wMo G ad o (0, r.2.1, r.2.2.1, r.2.2.2.1, upd r.2.2.2.2.1 ((300 * st) + (r.2.2.2.1 st.toNatClampNeg)).toNatClampNeg ia, upd r.2.2.2.2.2.1 ((300 * st) + (r.2.2.2.1 st.toNatClampNeg)).toNatClampNeg wa, upd r.2.2.2.2.2.2.1 ((300 * st) + (r.2.2.2.1 st.toNatClampNeg)).toNatClampNeg gr, r.2.2.2.2.2.2.2.1, r.2.2.2.2.2.2.2.2.1, r.2.2.2.2.2.2.2.2.2.1, r.2.2.2.2.2.2.2.2.2.2.1, r.2.2.2.2.2.2.2.2.2.2.2.1, r.2.2.2.2.2.2.2.2.2.2.2.2)) := hD
                    refine lv_aload_n hx hb dX7_offer_130 rfl (lv_at hl 2 rfl) ?_
                    refine va_get (D := G.1) (ci := 7) (v := .ref (ad (o+5))) (C := RX7) (T := TX7) (N := 13) hx hb hts hiX7 hown hY.1 hP 0 rfl rfl 7 (by decide) kf29 (fun _ h9 => h9) rfl dX7_offer_131 ?_
                    refine lv_iload hx hb dX7_offer_134 (lv_at hl 0 rfl) ?_
                    refine lv_iload hx hb dX7_offer_136 (lv_at hl 7 rfl) ?_
                    refine va_iast hx hb hY.1 hP hD hS 5 0 rfl rfl hat dX7_offer_138 (fun H locs hP hD hS => ?_)
                    have hP : va_P G.1 vwCl (wMo G ad o (0, r.2.1, r.2.2.1, r.2.2.2.1, upd r.2.2.2.2.1 ((300 * st) + (r.2.2.2.1 st.toNatClampNeg)).toNatClampNeg ia, upd r.2.2.2.2.2.1 ((300 * st) + (r.2.2.2.1 st.toNatClampNeg)).toNatClampNeg wa, upd r.2.2.2.2.2.2.1 ((300 * st) + (r.2.2.2.1 st.toNatClampNeg)).toNatClampNeg gr, upd r.2.2.2.2.2.2.2.1 ((300 * st) + (r.2.2.2.1 st.toNatClampNeg)).toNatClampNeg fa, r.2.2.2.2.2.2.2.2.1, r.2.2.2.2.2.2.2.2.2.1, r.2.2.2.2.2.2.2.2.2.2.1, r.2.2.2.2.2.2.2.2.2.2.2.1, r.2.2.2.2.2.2.2.2.2.2.2.2)) H := hP
                    have hD : va_D A (wMo G ad o (0, r.2.1, r.2.2.1, r.2.2.2.1, upd r.2.2.2.2.1 ((300 * st) + (r.2.2.2.1 st.toNatClampNeg)).toNatClampNeg ia, upd r.2.2.2.2.2.1 ((300 * st) + (r.2.2.2.1 st.toNatClampNeg)).toNatClampNeg wa, upd r.2.2.2.2.2.2.1 ((300 * st) + (r.2.2.2.1 st.toNatClampNeg)).toNatClampNeg gr, upd r.2.2.2.2.2.2.2.1 ((300 * st) + (r.2.2.2.1 st.toNatClampNeg)).toNatClampNeg fa, r.2.2.2.2.2.2.2.2.1, r.2.2.2.2.2.2.2.2.2.1, r.2.2.2.2.2.2.2.2.2.2.1, r.2.2.2.2.2.2.2.2.2.2.2.1, r.2.2.2.2.2.2.2.2.2.2.2.2)) := hD
                    refine lv_aload_n hx hb dX7_offer_139 rfl (lv_at hl 2 rfl) ?_
                    refine va_get (D := G.1) (ci := 7) (v := .ref (ad (o+6))) (C := RX7) (T := TX7) (N := 13) hx hb hts hiX7 hown hY.1 hP 0 rfl rfl 8 (by decide) kf32 (fun _ h9 => h9) rfl dX7_offer_140 ?_
                    refine lv_iload hx hb dX7_offer_143 (lv_at hl 0 rfl) ?_
                    refine lv_iload hx hb dX7_offer_145 (lv_at hl 8 rfl) ?_
                    refine va_iast hx hb hY.1 hP hD hS 6 0 rfl rfl hat dX7_offer_147 (fun H locs hP hD hS => ?_)
                    have hP : va_P G.1 vwCl (wMo G ad o (0, r.2.1, r.2.2.1, r.2.2.2.1, upd r.2.2.2.2.1 ((300 * st) + (r.2.2.2.1 st.toNatClampNeg)).toNatClampNeg ia, upd r.2.2.2.2.2.1 ((300 * st) + (r.2.2.2.1 st.toNatClampNeg)).toNatClampNeg wa, upd r.2.2.2.2.2.2.1 ((300 * st) + (r.2.2.2.1 st.toNatClampNeg)).toNatClampNeg gr, upd r.2.2.2.2.2.2.2.1 ((300 * st) + (r.2.2.2.1 st.toNatClampNeg)).toNatClampNeg fa, upd r.2.2.2.2.2.2.2.2.1 ((300 * st) + (r.2.2.2.1 st.toNatClampNeg)).toNatClampNeg sa, r.2.2.2.2.2.2.2.2.2.1, r.2.2.2.2.2.2.2.2.2.2.1, r.2.2.2.2.2.2.2.2.2.2.2.1, r.2.2.2.2.2.2.2.2.2.2.2.2)) H := hP
                    have hD : va_D A (wMo G ad o (0, r.2.1, r.2.2.1, r.2.2.2.1, upd r.2.2.2.2.1 ((300 * st) + (r.2.2.2.1 st.toNatClampNeg)).toNatClampNeg ia, upd r.2.2.2.2.2.1 ((300 * st) + (r.2.2.2.1 st.toNatClampNeg)).toNatClampNeg wa, upd r.2.2.2.2.2.2.1 ((300 * st) + (r.2.2.2.1 st.toNatClampNeg)).toNatClampNeg gr, upd r.2.2.2.2.2.2.2.1 ((300 * st) + (r.2.2.2.1 st.toNatClampNeg)).toNatClampNeg fa, upd r.2.2.2.2.2.2.2.2.1 ((300 * st) + (r.2.2.2.1 st.toNatClampNeg)).toNatClampNeg sa, r.2.2.2.2.2.2.2.2.2.1, r.2.2.2.2.2.2.2.2.2.2.1, r.2.2.2.2.2.2.2.2.2.2.2.1, r.2.2.2.2.2.2.2.2.2.2.2.2)) := hD
                    refine lv_aload_n hx hb dX7_offer_148 rfl (lv_at hl 2 rfl) ?_
                    refine va_get (D := G.1) (ci := 7) (v := .ref (ad (o+1))) (C := RX7) (T := TX7) (N := 13) hx hb hts hiX7 hown hY.1 hP 0 rfl rfl 3 (by decide) kf16 (fun _ h9 => h9) rfl dX7_offer_149 ?_
                    refine lv_iload_n hx hb dX7_offer_152 rfl (lv_at hl 3 rfl) ?_
                    refine lv_dup2_11 hx hb dX7_offer_153 rfl rfl ?_
                    refine va_iald hx hb hY.1 hP 1 0 rfl rfl (vp_st1 h0) dX7_offer_154 ?_
                    refine lv_iconst (v := 1) hx hb dX7_offer_155 (by decide) ?_
                    refine lv_iadd hx hb dX7_offer_156 ?_
                    refine va_iast hx hb hY.1 hP hD hS 1 0 rfl rfl (vp_st1 h0) dX7_offer_157 (fun H locs hP hD hS => ?_)
                    have hP : va_P G.1 vwCl (wMo G ad o (0, r.2.1, r.2.2.1, upd r.2.2.2.1 st.toNatClampNeg ((r.2.2.2.1 st.toNatClampNeg) + 1), upd r.2.2.2.2.1 ((300 * st) + (r.2.2.2.1 st.toNatClampNeg)).toNatClampNeg ia, upd r.2.2.2.2.2.1 ((300 * st) + (r.2.2.2.1 st.toNatClampNeg)).toNatClampNeg wa, upd r.2.2.2.2.2.2.1 ((300 * st) + (r.2.2.2.1 st.toNatClampNeg)).toNatClampNeg gr, upd r.2.2.2.2.2.2.2.1 ((300 * st) + (r.2.2.2.1 st.toNatClampNeg)).toNatClampNeg fa, upd r.2.2.2.2.2.2.2.2.1 ((300 * st) + (r.2.2.2.1 st.toNatClampNeg)).toNatClampNeg sa, r.2.2.2.2.2.2.2.2.2.1, r.2.2.2.2.2.2.2.2.2.2.1, r.2.2.2.2.2.2.2.2.2.2.2.1, r.2.2.2.2.2.2.2.2.2.2.2.2)) H := hP
                    have hD : va_D A (wMo G ad o (0, r.2.1, r.2.2.1, upd r.2.2.2.1 st.toNatClampNeg ((r.2.2.2.1 st.toNatClampNeg) + 1), upd r.2.2.2.2.1 ((300 * st) + (r.2.2.2.1 st.toNatClampNeg)).toNatClampNeg ia, upd r.2.2.2.2.2.1 ((300 * st) + (r.2.2.2.1 st.toNatClampNeg)).toNatClampNeg wa, upd r.2.2.2.2.2.2.1 ((300 * st) + (r.2.2.2.1 st.toNatClampNeg)).toNatClampNeg gr, upd r.2.2.2.2.2.2.2.1 ((300 * st) + (r.2.2.2.1 st.toNatClampNeg)).toNatClampNeg fa, upd r.2.2.2.2.2.2.2.2.1 ((300 * st) + (r.2.2.2.1 st.toNatClampNeg)).toNatClampNeg sa, r.2.2.2.2.2.2.2.2.2.1, r.2.2.2.2.2.2.2.2.2.2.1, r.2.2.2.2.2.2.2.2.2.2.2.1, r.2.2.2.2.2.2.2.2.2.2.2.2)) := hD
                    refine lv_aload_n hx hb dX7_offer_158 rfl (lv_at hl 2 rfl) ?_
                    refine va_get (D := G.1) (ci := 7) (v := .ref (ad (o+1))) (C := RX7) (T := TX7) (N := 13) hx hb hts hiX7 hown hY.1 hP 0 rfl rfl 3 (by decide) kf16 (fun _ h9 => h9) rfl dX7_offer_159 ?_
                    refine lv_iload_n hx hb dX7_offer_162 rfl (lv_at hl 3 rfl) ?_
                    refine va_iald hx hb hY.1 hP 1 0 rfl rfl (vp_st1 h0) dX7_offer_163 ?_
                    exact wr_iret hx hb hr hlk hS hP (by first | with_reducible rfl | (simp only [sld_eq, h6_1, h16_2, h26_3, h36_4, h41_5, h46_6, h59_7, h75_8, eq_true h86_9, ↓reduceIte]; done)) (by first | with_reducible rfl | (simp only [sld_eq, h6_1, h16_2, h26_3, h36_4, h41_5, h46_6, h59_7, h75_8, eq_true h86_9, ↓reduceIte]; done)) dX7_offer_164
                  · exact absurd rfl h86_9
                · exact absurd h75_8 hc
              · exact absurd h59_7 (by decide)

set_option maxHeartbeats 4000000 in
set_option maxRecDepth 100000 in
theorem km_X7_offer (l : Launch) (G : GT) (ad : Nat → Nat) (o : Nat) (r : MoT) (st ia wa gr fa sa : Int32) (h0 : okA st 0 1) (h1 : okA ia 0 1000000) (h2 : okA wa 1 1000000) (h3 : okA gr 0 3) (h4 : okA fa 0 2147483647) (h5 : okA sa 0 2147483647) (hc : r.2.2.2.1 st.toNatClampNeg = 300) : Wr l yX7_offer wsX7_offer { frames := 1, cells := 0, slots := 0, locals := 22 } G (wMo G ad o r) (wMo G ad o (2, r.2)) [.ref (ad o), .int st, .int ia, .int wa, .int gr, .int fa, .int sa] (some (.int 0)) := by
  intro sz
  refine Met.ofW (cc := cX7_offer) (maxL := 9) (ret := (some .int)) (by decide) rfl ?_
  intro p e s m args below meth c s₁ B hml hv
  obtain ⟨rfl, hsz, hP, hY, hD0⟩ := hv
  subst hsz
  have hD := hD0.self (sz := s.heap.size)
  generalize hAe : va_A (wMo G ad o r) s.heap.size = A at hD ⊢
  have hA : ∀ q : Nat, s.heap.size ≤ q → A q := fun q h => by rw [← hAe]; exact Or.inr h
  have hS : va_S A s.heap s.heap [] := va_S.rf
  have hx := B.exec
  have hb := B.bytes
  have hr := B.returns
  have hts := atoms_spec (ws := wsX7_offer) B.pre
  have hown : s.vm.findClass RX7 = some m.cls := findClass_of_methodNamed B.named
  have hlk := B.notSynchronized
  have CF : CallFix p m c cX7_offer 9 s _ wsX7_offer RX7 := ⟨hx, hb, hml, hown, hts⟩
  have kc53 := hts (.constant RX7 53 (1000000)) (List.mem_cons_of_mem _ (List.mem_append_left _ (List.mem_of_getElem? (i := 0) rfl)))
  have hiX7 : ∀ w ∈ wsX70, w ∈ wsX7_offer := fun w h => (List.mem_cons_of_mem _ (List.mem_append_right _ h))
  have kf16 := hts (.fieldLink RX7 16 "ReservoirReedModel" "many" "[I") (List.mem_cons_of_mem _ (List.mem_append_left _ (List.mem_of_getElem? (i := 1) rfl)))
  have hl := lv_entry ([.ref (ad o), .int st, .int ia, .int wa, .int gr, .int fa, .int sa]) (n := 9) (Nat.le_of_ble_eq_true rfl)
  rw [lg_entry_eq]
  generalize (lg_sl ([.ref (ad o), .int st, .int ia, .int wa, .int gr, .int fa, .int sa]) ++ List.replicate (9 - (lg_sl ([.ref (ad o), .int st, .int ia, .int wa, .int gr, .int fa, .int sa])).length) Slot.unset).toArray = ls at hl ⊢
  have hl : lv_has ls 9 [(0, .ref (ad o)), (1, .int st), (2, .int ia), (3, .int wa), (4, .int gr), (5, .int fa), (6, .int sa)] := hl
  refine lv_iload_n hx hb dX7_offer_0 rfl (lv_at hl 1 rfl) ?_
  refine lv_iconst (v := 0) hx hb dX7_offer_1 (by decide) ?_
  refine lv_iconst (v := 1) hx hb dX7_offer_2 (by decide) ?_
  refine rdS (w0 := ([] : va_W)) (As := [.int st, .int 0, .int 1]) (rest := []) CF (k_X7_in l G st 0 1 h0) (va_cwS 3 hts gX7_offer_X7_in rfl rfl rfl (by decide +kernel) ⟨Nat.le_of_ble_eq_true rfl, Nat.le_of_ble_eq_true rfl⟩) va_P_nil hY rfl hl.1 rfl (lv_room (Nat.le_of_ble_eq_true rfl)) dX7_offer_3 ⟨Nat.zero_le _, Nat.zero_le _⟩ ?_
  refine lv_if_eq (tgt := 53) hx hb dX7_offer_6 (by decide) (fun h6_1 => ?_) (fun h6_1 => ?_)
  · exact absurd h6_1 (by decide)
  · refine lv_iload_n hx hb dX7_offer_9 rfl (lv_at hl 2 rfl) ?_
    refine lv_iconst (v := 0) hx hb dX7_offer_10 (by decide) ?_
    refine lv_ldc hx hb hown kc53 dX7_offer_11 ?_
    refine rdS (w0 := ([] : va_W)) (As := [.int ia, .int 0, .int 1000000]) (rest := []) CF (k_X7_in l G ia 0 1000000 h1) (va_cwS 3 hts gX7_offer_X7_in rfl rfl rfl (by decide +kernel) ⟨Nat.le_of_ble_eq_true rfl, Nat.le_of_ble_eq_true rfl⟩) va_P_nil hY rfl hl.1 rfl (lv_room (Nat.le_of_ble_eq_true rfl)) dX7_offer_13 ⟨Nat.zero_le _, Nat.zero_le _⟩ ?_
    refine lv_if_eq (tgt := 53) hx hb dX7_offer_16 (by decide) (fun h16_2 => ?_) (fun h16_2 => ?_)
    · exact absurd h16_2 (by decide)
    · refine lv_iload_n hx hb dX7_offer_19 rfl (lv_at hl 3 rfl) ?_
      refine lv_iconst (v := 1) hx hb dX7_offer_20 (by decide) ?_
      refine lv_ldc hx hb hown kc53 dX7_offer_21 ?_
      refine rdS (w0 := ([] : va_W)) (As := [.int wa, .int 1, .int 1000000]) (rest := []) CF (k_X7_in l G wa 1 1000000 h2) (va_cwS 3 hts gX7_offer_X7_in rfl rfl rfl (by decide +kernel) ⟨Nat.le_of_ble_eq_true rfl, Nat.le_of_ble_eq_true rfl⟩) va_P_nil hY rfl hl.1 rfl (lv_room (Nat.le_of_ble_eq_true rfl)) dX7_offer_23 ⟨Nat.zero_le _, Nat.zero_le _⟩ ?_
      refine lv_if_eq (tgt := 53) hx hb dX7_offer_26 (by decide) (fun h26_3 => ?_) (fun h26_3 => ?_)
      · exact absurd h26_3 (by decide)
      · refine lv_iload hx hb dX7_offer_29 (lv_at hl 4 rfl) ?_
        refine lv_iconst (v := 0) hx hb dX7_offer_31 (by decide) ?_
        refine lv_iconst (v := 3) hx hb dX7_offer_32 (by decide) ?_
        refine rdS (w0 := ([] : va_W)) (As := [.int gr, .int 0, .int 3]) (rest := []) CF (k_X7_in l G gr 0 3 h3) (va_cwS 3 hts gX7_offer_X7_in rfl rfl rfl (by decide +kernel) ⟨Nat.le_of_ble_eq_true rfl, Nat.le_of_ble_eq_true rfl⟩) va_P_nil hY rfl hl.1 rfl (lv_room (Nat.le_of_ble_eq_true rfl)) dX7_offer_33 ⟨Nat.zero_le _, Nat.zero_le _⟩ ?_
        refine lv_if_eq (tgt := 53) hx hb dX7_offer_36 (by decide) (fun h36_4 => ?_) (fun h36_4 => ?_)
        · exact absurd h36_4 (by decide)
        · refine lv_iload hx hb dX7_offer_39 (lv_at hl 5 rfl) ?_
          refine lv_if_lt (tgt := 53) hx hb dX7_offer_41 (by decide) (fun h41_5 => ?_) (fun h41_5 => ?_)
          · exact absurd h41_5 h4.1
          · refine lv_iload hx hb dX7_offer_44 (lv_at hl 6 rfl) ?_
            refine lv_if_lt (tgt := 53) hx hb dX7_offer_46 (by decide) (fun h46_6 => ?_) (fun h46_6 => ?_)
            · exact absurd h46_6 h5.1
            · refine lv_iconst (v := 1) hx hb dX7_offer_49 (by decide) ?_
              refine lv_goto (tgt := 54) hx hb dX7_offer_50 (by decide) ?_
              refine lv_istore (lv' := [(7, .int 1), (0, .ref (ad o)), (1, .int st), (2, .int ia), (3, .int wa), (4, .int gr), (5, .int fa), (6, .int sa)]) hx hb dX7_offer_54 hl (by decide) rfl (fun ls hl => ?_)
              refine lv_aload_n hx hb dX7_offer_56 rfl (lv_at hl 1 rfl) ?_
              refine lv_iload hx hb dX7_offer_57 (lv_at hl 0 rfl) ?_
              refine lv_if_ne (tgt := 66) hx hb dX7_offer_59 (by decide) (fun h59_7 => ?_) (fun h59_7 => ?_)
              · refine lv_aload_n hx hb dX7_offer_66 rfl (lv_at hl 1 rfl) ?_
                refine va_get (D := G.1) (ci := 7) (v := .ref (ad (o+1))) (C := RX7) (T := TX7) (N := 13) hx hb hts hiX7 hown hY.1 hP 0 rfl rfl 3 (by decide) kf16 (fun _ h9 => h9) rfl dX7_offer_67 ?_
                refine lv_iload_n hx hb dX7_offer_70 rfl (lv_at hl 2 rfl) ?_
                refine va_iald hx hb hY.1 hP 1 0 rfl rfl (vp_st1 h0) dX7_offer_71 ?_
                refine lv_sipush (v := 300) hx hb dX7_offer_72 (by decide) ?_
                refine lv_icmp_ne (tgt := 82) hx hb dX7_offer_75 (by decide) (fun h75_8 => ?_) (fun h75_8 => ?_)
                · exact absurd hc h75_8
                · refine lv_iconst (v := 2) hx hb dX7_offer_78 (by decide) ?_
                  refine lv_goto (tgt := 83) hx hb dX7_offer_79 (by decide) ?_
                  refine wrV [] (wMo G ad o r) [] (wMo G ad o (2, r.2)) (As := [.int 2]) (rest := []) CF (k1_X7_refused l G ad o r 2 (by decide)) (cwV 1 hts gX7_offer_X7_refused rfl rfl rfl (by decide +kernel) ⟨Nat.le_of_ble_eq_true rfl, Nat.le_of_ble_eq_true rfl⟩) hP hD hS hA hY rfl rfl (fst_Mo _ _ _ _ _) rfl hl.1 rfl (lv_room (Nat.le_of_ble_eq_true rfl)) dX7_offer_83 ⟨Nat.zero_le _, Nat.zero_le _⟩ (fun H locs hP hD hS => ?_)
                  have hP : va_P G.1 vwCl (wMo G ad o (2, r.2.1, r.2.2.1, r.2.2.2.1, r.2.2.2.2.1, r.2.2.2.2.2.1, r.2.2.2.2.2.2.1, r.2.2.2.2.2.2.2.1, r.2.2.2.2.2.2.2.2.1, r.2.2.2.2.2.2.2.2.2.1, r.2.2.2.2.2.2.2.2.2.2.1, r.2.2.2.2.2.2.2.2.2.2.2.1, r.2.2.2.2.2.2.2.2.2.2.2.2)) H := hP
                  have hD : va_D A (wMo G ad o (2, r.2.1, r.2.2.1, r.2.2.2.1, r.2.2.2.2.1, r.2.2.2.2.2.1, r.2.2.2.2.2.2.1, r.2.2.2.2.2.2.2.1, r.2.2.2.2.2.2.2.2.1, r.2.2.2.2.2.2.2.2.2.1, r.2.2.2.2.2.2.2.2.2.2.1, r.2.2.2.2.2.2.2.2.2.2.2.1, r.2.2.2.2.2.2.2.2.2.2.2.2)) := hD
                  refine lv_if_eq (tgt := 91) hx hb dX7_offer_86 (by decide) (fun h86_9 => ?_) (fun h86_9 => ?_)
                  · exact absurd h86_9 (by decide)
                  · refine lv_iconst (v := 0) hx hb dX7_offer_89 (by decide) ?_
                    exact wr_iret hx hb hr hlk hS hP (by first | with_reducible rfl | (simp only [sld_eq, h6_1, h16_2, h26_3, h36_4, h41_5, h46_6, h59_7, eq_true h75_8, h86_9, ↓reduceIte]; done)) (by first | with_reducible rfl | (simp only [sld_eq, h6_1, h16_2, h26_3, h36_4, h41_5, h46_6, h59_7, eq_true h75_8, h86_9, ↓reduceIte]; done)) dX7_offer_90
              · exact absurd h59_7 (by decide)

set_option maxHeartbeats 4000000 in
set_option maxRecDepth 100000 in
theorem kn_X7_offer (l : Launch) (G : GT) (ad : Nat → Nat) (o : Nat) (r : MoT) (st ia wa gr fa sa : Int32) (hk : ¬ (okA st 0 1 ∧ okA ia 0 1000000 ∧ okA wa 1 1000000 ∧ okA gr 0 3 ∧ okA fa 0 2147483647 ∧ okA sa 0 2147483647)) : Wr l yX7_offer wsX7_offer { frames := 1, cells := 0, slots := 0, locals := 22 } G (wMo G ad o r) (wMo G ad o (1, r.2)) [.ref (ad o), .int st, .int ia, .int wa, .int gr, .int fa, .int sa] (some (.int 0)) := by
  intro sz
  refine Met.ofW (cc := cX7_offer) (maxL := 9) (ret := (some .int)) (by decide) rfl ?_
  intro p e s m args below meth c s₁ B hml hv
  obtain ⟨rfl, hsz, hP, hY, hD0⟩ := hv
  subst hsz
  have hD := hD0.self (sz := s.heap.size)
  generalize hAe : va_A (wMo G ad o r) s.heap.size = A at hD ⊢
  have hA : ∀ q : Nat, s.heap.size ≤ q → A q := fun q h => by rw [← hAe]; exact Or.inr h
  have hS : va_S A s.heap s.heap [] := va_S.rf
  have hx := B.exec
  have hb := B.bytes
  have hr := B.returns
  have hts := atoms_spec (ws := wsX7_offer) B.pre
  have hown : s.vm.findClass RX7 = some m.cls := findClass_of_methodNamed B.named
  have hlk := B.notSynchronized
  have CF : CallFix p m c cX7_offer 9 s _ wsX7_offer RX7 := ⟨hx, hb, hml, hown, hts⟩
  have kc53 := hts (.constant RX7 53 (1000000)) (List.mem_cons_of_mem _ (List.mem_append_left _ (List.mem_of_getElem? (i := 0) rfl)))
  have hl := lv_entry ([.ref (ad o), .int st, .int ia, .int wa, .int gr, .int fa, .int sa]) (n := 9) (Nat.le_of_ble_eq_true rfl)
  rw [lg_entry_eq]
  generalize (lg_sl ([.ref (ad o), .int st, .int ia, .int wa, .int gr, .int fa, .int sa]) ++ List.replicate (9 - (lg_sl ([.ref (ad o), .int st, .int ia, .int wa, .int gr, .int fa, .int sa])).length) Slot.unset).toArray = ls at hl ⊢
  have hl : lv_has ls 9 [(0, .ref (ad o)), (1, .int st), (2, .int ia), (3, .int wa), (4, .int gr), (5, .int fa), (6, .int sa)] := hl
  refine lv_iload_n hx hb dX7_offer_0 rfl (lv_at hl 1 rfl) ?_
  refine lv_iconst (v := 0) hx hb dX7_offer_1 (by decide) ?_
  refine lv_iconst (v := 1) hx hb dX7_offer_2 (by decide) ?_
  by_cases q3_1 : okA st 0 1
  · refine rdS (w0 := ([] : va_W)) (As := [.int st, .int 0, .int 1]) (rest := []) CF (k_X7_in l G st 0 1 q3_1) (va_cwS 3 hts gX7_offer_X7_in rfl rfl rfl (by decide +kernel) ⟨Nat.le_of_ble_eq_true rfl, Nat.le_of_ble_eq_true rfl⟩) va_P_nil hY rfl hl.1 rfl (lv_room (Nat.le_of_ble_eq_true rfl)) dX7_offer_3 ⟨Nat.zero_le _, Nat.zero_le _⟩ ?_
    refine lv_if_eq (tgt := 53) hx hb dX7_offer_6 (by decide) (fun h6_2 => ?_) (fun h6_2 => ?_)
    · exact absurd h6_2 (by decide)
    · refine lv_iload_n hx hb dX7_offer_9 rfl (lv_at hl 2 rfl) ?_
      refine lv_iconst (v := 0) hx hb dX7_offer_10 (by decide) ?_
      refine lv_ldc hx hb hown kc53 dX7_offer_11 ?_
      by_cases q13_3 : okA ia 0 1000000
      · refine rdS (w0 := ([] : va_W)) (As := [.int ia, .int 0, .int 1000000]) (rest := []) CF (k_X7_in l G ia 0 1000000 q13_3) (va_cwS 3 hts gX7_offer_X7_in rfl rfl rfl (by decide +kernel) ⟨Nat.le_of_ble_eq_true rfl, Nat.le_of_ble_eq_true rfl⟩) va_P_nil hY rfl hl.1 rfl (lv_room (Nat.le_of_ble_eq_true rfl)) dX7_offer_13 ⟨Nat.zero_le _, Nat.zero_le _⟩ ?_
        refine lv_if_eq (tgt := 53) hx hb dX7_offer_16 (by decide) (fun h16_4 => ?_) (fun h16_4 => ?_)
        · exact absurd h16_4 (by decide)
        · refine lv_iload_n hx hb dX7_offer_19 rfl (lv_at hl 3 rfl) ?_
          refine lv_iconst (v := 1) hx hb dX7_offer_20 (by decide) ?_
          refine lv_ldc hx hb hown kc53 dX7_offer_21 ?_
          by_cases q23_5 : okA wa 1 1000000
          · refine rdS (w0 := ([] : va_W)) (As := [.int wa, .int 1, .int 1000000]) (rest := []) CF (k_X7_in l G wa 1 1000000 q23_5) (va_cwS 3 hts gX7_offer_X7_in rfl rfl rfl (by decide +kernel) ⟨Nat.le_of_ble_eq_true rfl, Nat.le_of_ble_eq_true rfl⟩) va_P_nil hY rfl hl.1 rfl (lv_room (Nat.le_of_ble_eq_true rfl)) dX7_offer_23 ⟨Nat.zero_le _, Nat.zero_le _⟩ ?_
            refine lv_if_eq (tgt := 53) hx hb dX7_offer_26 (by decide) (fun h26_6 => ?_) (fun h26_6 => ?_)
            · exact absurd h26_6 (by decide)
            · refine lv_iload hx hb dX7_offer_29 (lv_at hl 4 rfl) ?_
              refine lv_iconst (v := 0) hx hb dX7_offer_31 (by decide) ?_
              refine lv_iconst (v := 3) hx hb dX7_offer_32 (by decide) ?_
              by_cases q33_7 : okA gr 0 3
              · refine rdS (w0 := ([] : va_W)) (As := [.int gr, .int 0, .int 3]) (rest := []) CF (k_X7_in l G gr 0 3 q33_7) (va_cwS 3 hts gX7_offer_X7_in rfl rfl rfl (by decide +kernel) ⟨Nat.le_of_ble_eq_true rfl, Nat.le_of_ble_eq_true rfl⟩) va_P_nil hY rfl hl.1 rfl (lv_room (Nat.le_of_ble_eq_true rfl)) dX7_offer_33 ⟨Nat.zero_le _, Nat.zero_le _⟩ ?_
                refine lv_if_eq (tgt := 53) hx hb dX7_offer_36 (by decide) (fun h36_8 => ?_) (fun h36_8 => ?_)
                · exact absurd h36_8 (by decide)
                · refine lv_iload hx hb dX7_offer_39 (lv_at hl 5 rfl) ?_
                  refine lv_if_lt (tgt := 53) hx hb dX7_offer_41 (by decide) (fun h41_9 => ?_) (fun h41_9 => ?_)
                  · refine lv_iconst (v := 0) hx hb dX7_offer_53 (by decide) ?_
                    refine lv_istore (lv' := [(7, .int 0), (0, .ref (ad o)), (1, .int st), (2, .int ia), (3, .int wa), (4, .int gr), (5, .int fa), (6, .int sa)]) hx hb dX7_offer_54 hl (by decide) rfl (fun ls hl => ?_)
                    refine lv_aload_n hx hb dX7_offer_56 rfl (lv_at hl 1 rfl) ?_
                    refine lv_iload hx hb dX7_offer_57 (lv_at hl 0 rfl) ?_
                    refine lv_if_ne (tgt := 66) hx hb dX7_offer_59 (by decide) (fun h59_10 => ?_) (fun h59_10 => ?_)
                    · exact absurd rfl h59_10
                    · refine lv_iconst (v := 1) hx hb dX7_offer_62 (by decide) ?_
                      refine lv_goto (tgt := 83) hx hb dX7_offer_63 (by decide) ?_
                      refine wrV [] (wMo G ad o r) [] (wMo G ad o (1, r.2)) (As := [.int 1]) (rest := []) CF (k1_X7_refused l G ad o r 1 (by decide)) (cwV 1 hts gX7_offer_X7_refused rfl rfl rfl (by decide +kernel) ⟨Nat.le_of_ble_eq_true rfl, Nat.le_of_ble_eq_true rfl⟩) hP hD hS hA hY rfl rfl (fst_Mo _ _ _ _ _) rfl hl.1 rfl (lv_room (Nat.le_of_ble_eq_true rfl)) dX7_offer_83 ⟨Nat.zero_le _, Nat.zero_le _⟩ (fun H locs hP hD hS => ?_)
                      have hP : va_P G.1 vwCl (wMo G ad o (1, r.2.1, r.2.2.1, r.2.2.2.1, r.2.2.2.2.1, r.2.2.2.2.2.1, r.2.2.2.2.2.2.1, r.2.2.2.2.2.2.2.1, r.2.2.2.2.2.2.2.2.1, r.2.2.2.2.2.2.2.2.2.1, r.2.2.2.2.2.2.2.2.2.2.1, r.2.2.2.2.2.2.2.2.2.2.2.1, r.2.2.2.2.2.2.2.2.2.2.2.2)) H := hP
                      have hD : va_D A (wMo G ad o (1, r.2.1, r.2.2.1, r.2.2.2.1, r.2.2.2.2.1, r.2.2.2.2.2.1, r.2.2.2.2.2.2.1, r.2.2.2.2.2.2.2.1, r.2.2.2.2.2.2.2.2.1, r.2.2.2.2.2.2.2.2.2.1, r.2.2.2.2.2.2.2.2.2.2.1, r.2.2.2.2.2.2.2.2.2.2.2.1, r.2.2.2.2.2.2.2.2.2.2.2.2)) := hD
                      refine lv_if_eq (tgt := 91) hx hb dX7_offer_86 (by decide) (fun h86_11 => ?_) (fun h86_11 => ?_)
                      · exact absurd h86_11 (by decide)
                      · refine lv_iconst (v := 0) hx hb dX7_offer_89 (by decide) ?_
                        exact wr_iret hx hb hr hlk hS hP (by first | with_reducible rfl | (simp only [sld_eq, q3_1, h6_2, q13_3, h16_4, q23_5, h26_6, q33_7, h36_8, h41_9, eq_true h59_10, h86_11, ↓reduceIte]; done)) (by first | with_reducible rfl | (simp only [sld_eq, q3_1, h6_2, q13_3, h16_4, q23_5, h26_6, q33_7, h36_8, h41_9, eq_true h59_10, h86_11, ↓reduceIte]; done)) dX7_offer_90
                  · refine lv_iload hx hb dX7_offer_44 (lv_at hl 6 rfl) ?_
                    refine lv_if_lt (tgt := 53) hx hb dX7_offer_46 (by decide) (fun h46_12 => ?_) (fun h46_12 => ?_)
                    · refine lv_iconst (v := 0) hx hb dX7_offer_53 (by decide) ?_
                      refine lv_istore (lv' := [(7, .int 0), (0, .ref (ad o)), (1, .int st), (2, .int ia), (3, .int wa), (4, .int gr), (5, .int fa), (6, .int sa)]) hx hb dX7_offer_54 hl (by decide) rfl (fun ls hl => ?_)
                      refine lv_aload_n hx hb dX7_offer_56 rfl (lv_at hl 1 rfl) ?_
                      refine lv_iload hx hb dX7_offer_57 (lv_at hl 0 rfl) ?_
                      refine lv_if_ne (tgt := 66) hx hb dX7_offer_59 (by decide) (fun h59_13 => ?_) (fun h59_13 => ?_)
                      · exact absurd rfl h59_13
                      · refine lv_iconst (v := 1) hx hb dX7_offer_62 (by decide) ?_
                        refine lv_goto (tgt := 83) hx hb dX7_offer_63 (by decide) ?_
                        refine wrV [] (wMo G ad o r) [] (wMo G ad o (1, r.2)) (As := [.int 1]) (rest := []) CF (k1_X7_refused l G ad o r 1 (by decide)) (cwV 1 hts gX7_offer_X7_refused rfl rfl rfl (by decide +kernel) ⟨Nat.le_of_ble_eq_true rfl, Nat.le_of_ble_eq_true rfl⟩) hP hD hS hA hY rfl rfl (fst_Mo _ _ _ _ _) rfl hl.1 rfl (lv_room (Nat.le_of_ble_eq_true rfl)) dX7_offer_83 ⟨Nat.zero_le _, Nat.zero_le _⟩ (fun H locs hP hD hS => ?_)
                        have hP : va_P G.1 vwCl (wMo G ad o (1, r.2.1, r.2.2.1, r.2.2.2.1, r.2.2.2.2.1, r.2.2.2.2.2.1, r.2.2.2.2.2.2.1, r.2.2.2.2.2.2.2.1, r.2.2.2.2.2.2.2.2.1, r.2.2.2.2.2.2.2.2.2.1, r.2.2.2.2.2.2.2.2.2.2.1, r.2.2.2.2.2.2.2.2.2.2.2.1, r.2.2.2.2.2.2.2.2.2.2.2.2)) H := hP
                        have hD : va_D A (wMo G ad o (1, r.2.1, r.2.2.1, r.2.2.2.1, r.2.2.2.2.1, r.2.2.2.2.2.1, r.2.2.2.2.2.2.1, r.2.2.2.2.2.2.2.1, r.2.2.2.2.2.2.2.2.1, r.2.2.2.2.2.2.2.2.2.1, r.2.2.2.2.2.2.2.2.2.2.1, r.2.2.2.2.2.2.2.2.2.2.2.1, r.2.2.2.2.2.2.2.2.2.2.2.2)) := hD
                        refine lv_if_eq (tgt := 91) hx hb dX7_offer_86 (by decide) (fun h86_14 => ?_) (fun h86_14 => ?_)
                        · exact absurd h86_14 (by decide)
                        · refine lv_iconst (v := 0) hx hb dX7_offer_89 (by decide) ?_
                          exact wr_iret hx hb hr hlk hS hP (by first | with_reducible rfl | (simp only [sld_eq, q3_1, h6_2, q13_3, h16_4, q23_5, h26_6, q33_7, h36_8, h41_9, h46_12, eq_true h59_13, h86_14, ↓reduceIte]; done)) (by first | with_reducible rfl | (simp only [sld_eq, q3_1, h6_2, q13_3, h16_4, q23_5, h26_6, q33_7, h36_8, h41_9, h46_12, eq_true h59_13, h86_14, ↓reduceIte]; done)) dX7_offer_90
                    · exact absurd ⟨q3_1, q13_3, q23_5, q33_7, ⟨h41_9, le_mx _⟩, ⟨h46_12, le_mx _⟩⟩ hk
              · refine rdS (w0 := ([] : va_W)) (As := [.int gr, .int 0, .int 3]) (rest := []) CF (kn_X7_in l G gr 0 3 q33_7) (va_cwS 3 hts gX7_offer_X7_in rfl rfl rfl (by decide +kernel) ⟨Nat.le_of_ble_eq_true rfl, Nat.le_of_ble_eq_true rfl⟩) va_P_nil hY rfl hl.1 rfl (lv_room (Nat.le_of_ble_eq_true rfl)) dX7_offer_33 ⟨Nat.zero_le _, Nat.zero_le _⟩ ?_
                refine lv_if_eq (tgt := 53) hx hb dX7_offer_36 (by decide) (fun h36_15 => ?_) (fun h36_15 => ?_)
                · refine lv_iconst (v := 0) hx hb dX7_offer_53 (by decide) ?_
                  refine lv_istore (lv' := [(7, .int 0), (0, .ref (ad o)), (1, .int st), (2, .int ia), (3, .int wa), (4, .int gr), (5, .int fa), (6, .int sa)]) hx hb dX7_offer_54 hl (by decide) rfl (fun ls hl => ?_)
                  refine lv_aload_n hx hb dX7_offer_56 rfl (lv_at hl 1 rfl) ?_
                  refine lv_iload hx hb dX7_offer_57 (lv_at hl 0 rfl) ?_
                  refine lv_if_ne (tgt := 66) hx hb dX7_offer_59 (by decide) (fun h59_16 => ?_) (fun h59_16 => ?_)
                  · exact absurd rfl h59_16
                  · refine lv_iconst (v := 1) hx hb dX7_offer_62 (by decide) ?_
                    refine lv_goto (tgt := 83) hx hb dX7_offer_63 (by decide) ?_
                    refine wrV [] (wMo G ad o r) [] (wMo G ad o (1, r.2)) (As := [.int 1]) (rest := []) CF (k1_X7_refused l G ad o r 1 (by decide)) (cwV 1 hts gX7_offer_X7_refused rfl rfl rfl (by decide +kernel) ⟨Nat.le_of_ble_eq_true rfl, Nat.le_of_ble_eq_true rfl⟩) hP hD hS hA hY rfl rfl (fst_Mo _ _ _ _ _) rfl hl.1 rfl (lv_room (Nat.le_of_ble_eq_true rfl)) dX7_offer_83 ⟨Nat.zero_le _, Nat.zero_le _⟩ (fun H locs hP hD hS => ?_)
                    have hP : va_P G.1 vwCl (wMo G ad o (1, r.2.1, r.2.2.1, r.2.2.2.1, r.2.2.2.2.1, r.2.2.2.2.2.1, r.2.2.2.2.2.2.1, r.2.2.2.2.2.2.2.1, r.2.2.2.2.2.2.2.2.1, r.2.2.2.2.2.2.2.2.2.1, r.2.2.2.2.2.2.2.2.2.2.1, r.2.2.2.2.2.2.2.2.2.2.2.1, r.2.2.2.2.2.2.2.2.2.2.2.2)) H := hP
                    have hD : va_D A (wMo G ad o (1, r.2.1, r.2.2.1, r.2.2.2.1, r.2.2.2.2.1, r.2.2.2.2.2.1, r.2.2.2.2.2.2.1, r.2.2.2.2.2.2.2.1, r.2.2.2.2.2.2.2.2.1, r.2.2.2.2.2.2.2.2.2.1, r.2.2.2.2.2.2.2.2.2.2.1, r.2.2.2.2.2.2.2.2.2.2.2.1, r.2.2.2.2.2.2.2.2.2.2.2.2)) := hD
                    refine lv_if_eq (tgt := 91) hx hb dX7_offer_86 (by decide) (fun h86_17 => ?_) (fun h86_17 => ?_)
                    · exact absurd h86_17 (by decide)
                    · refine lv_iconst (v := 0) hx hb dX7_offer_89 (by decide) ?_
                      exact wr_iret hx hb hr hlk hS hP (by first | with_reducible rfl | (simp only [sld_eq, q3_1, h6_2, q13_3, h16_4, q23_5, h26_6, q33_7, eq_true h36_15, eq_true h59_16, h86_17, ↓reduceIte]; done)) (by first | with_reducible rfl | (simp only [sld_eq, q3_1, h6_2, q13_3, h16_4, q23_5, h26_6, q33_7, eq_true h36_15, eq_true h59_16, h86_17, ↓reduceIte]; done)) dX7_offer_90
                · exact absurd rfl h36_15
          · refine rdS (w0 := ([] : va_W)) (As := [.int wa, .int 1, .int 1000000]) (rest := []) CF (kn_X7_in l G wa 1 1000000 q23_5) (va_cwS 3 hts gX7_offer_X7_in rfl rfl rfl (by decide +kernel) ⟨Nat.le_of_ble_eq_true rfl, Nat.le_of_ble_eq_true rfl⟩) va_P_nil hY rfl hl.1 rfl (lv_room (Nat.le_of_ble_eq_true rfl)) dX7_offer_23 ⟨Nat.zero_le _, Nat.zero_le _⟩ ?_
            refine lv_if_eq (tgt := 53) hx hb dX7_offer_26 (by decide) (fun h26_18 => ?_) (fun h26_18 => ?_)
            · refine lv_iconst (v := 0) hx hb dX7_offer_53 (by decide) ?_
              refine lv_istore (lv' := [(7, .int 0), (0, .ref (ad o)), (1, .int st), (2, .int ia), (3, .int wa), (4, .int gr), (5, .int fa), (6, .int sa)]) hx hb dX7_offer_54 hl (by decide) rfl (fun ls hl => ?_)
              refine lv_aload_n hx hb dX7_offer_56 rfl (lv_at hl 1 rfl) ?_
              refine lv_iload hx hb dX7_offer_57 (lv_at hl 0 rfl) ?_
              refine lv_if_ne (tgt := 66) hx hb dX7_offer_59 (by decide) (fun h59_19 => ?_) (fun h59_19 => ?_)
              · exact absurd rfl h59_19
              · refine lv_iconst (v := 1) hx hb dX7_offer_62 (by decide) ?_
                refine lv_goto (tgt := 83) hx hb dX7_offer_63 (by decide) ?_
                refine wrV [] (wMo G ad o r) [] (wMo G ad o (1, r.2)) (As := [.int 1]) (rest := []) CF (k1_X7_refused l G ad o r 1 (by decide)) (cwV 1 hts gX7_offer_X7_refused rfl rfl rfl (by decide +kernel) ⟨Nat.le_of_ble_eq_true rfl, Nat.le_of_ble_eq_true rfl⟩) hP hD hS hA hY rfl rfl (fst_Mo _ _ _ _ _) rfl hl.1 rfl (lv_room (Nat.le_of_ble_eq_true rfl)) dX7_offer_83 ⟨Nat.zero_le _, Nat.zero_le _⟩ (fun H locs hP hD hS => ?_)
                have hP : va_P G.1 vwCl (wMo G ad o (1, r.2.1, r.2.2.1, r.2.2.2.1, r.2.2.2.2.1, r.2.2.2.2.2.1, r.2.2.2.2.2.2.1, r.2.2.2.2.2.2.2.1, r.2.2.2.2.2.2.2.2.1, r.2.2.2.2.2.2.2.2.2.1, r.2.2.2.2.2.2.2.2.2.2.1, r.2.2.2.2.2.2.2.2.2.2.2.1, r.2.2.2.2.2.2.2.2.2.2.2.2)) H := hP
                have hD : va_D A (wMo G ad o (1, r.2.1, r.2.2.1, r.2.2.2.1, r.2.2.2.2.1, r.2.2.2.2.2.1, r.2.2.2.2.2.2.1, r.2.2.2.2.2.2.2.1, r.2.2.2.2.2.2.2.2.1, r.2.2.2.2.2.2.2.2.2.1, r.2.2.2.2.2.2.2.2.2.2.1, r.2.2.2.2.2.2.2.2.2.2.2.1, r.2.2.2.2.2.2.2.2.2.2.2.2)) := hD
                refine lv_if_eq (tgt := 91) hx hb dX7_offer_86 (by decide) (fun h86_20 => ?_) (fun h86_20 => ?_)
                · exact absurd h86_20 (by decide)
                · refine lv_iconst (v := 0) hx hb dX7_offer_89 (by decide) ?_
                  exact wr_iret hx hb hr hlk hS hP (by first | with_reducible rfl | (simp only [sld_eq, q3_1, h6_2, q13_3, h16_4, q23_5, eq_true h26_18, eq_true h59_19, h86_20, ↓reduceIte]; done)) (by first | with_reducible rfl | (simp only [sld_eq, q3_1, h6_2, q13_3, h16_4, q23_5, eq_true h26_18, eq_true h59_19, h86_20, ↓reduceIte]; done)) dX7_offer_90
            · exact absurd rfl h26_18
      · refine rdS (w0 := ([] : va_W)) (As := [.int ia, .int 0, .int 1000000]) (rest := []) CF (kn_X7_in l G ia 0 1000000 q13_3) (va_cwS 3 hts gX7_offer_X7_in rfl rfl rfl (by decide +kernel) ⟨Nat.le_of_ble_eq_true rfl, Nat.le_of_ble_eq_true rfl⟩) va_P_nil hY rfl hl.1 rfl (lv_room (Nat.le_of_ble_eq_true rfl)) dX7_offer_13 ⟨Nat.zero_le _, Nat.zero_le _⟩ ?_
        refine lv_if_eq (tgt := 53) hx hb dX7_offer_16 (by decide) (fun h16_21 => ?_) (fun h16_21 => ?_)
        · refine lv_iconst (v := 0) hx hb dX7_offer_53 (by decide) ?_
          refine lv_istore (lv' := [(7, .int 0), (0, .ref (ad o)), (1, .int st), (2, .int ia), (3, .int wa), (4, .int gr), (5, .int fa), (6, .int sa)]) hx hb dX7_offer_54 hl (by decide) rfl (fun ls hl => ?_)
          refine lv_aload_n hx hb dX7_offer_56 rfl (lv_at hl 1 rfl) ?_
          refine lv_iload hx hb dX7_offer_57 (lv_at hl 0 rfl) ?_
          refine lv_if_ne (tgt := 66) hx hb dX7_offer_59 (by decide) (fun h59_22 => ?_) (fun h59_22 => ?_)
          · exact absurd rfl h59_22
          · refine lv_iconst (v := 1) hx hb dX7_offer_62 (by decide) ?_
            refine lv_goto (tgt := 83) hx hb dX7_offer_63 (by decide) ?_
            refine wrV [] (wMo G ad o r) [] (wMo G ad o (1, r.2)) (As := [.int 1]) (rest := []) CF (k1_X7_refused l G ad o r 1 (by decide)) (cwV 1 hts gX7_offer_X7_refused rfl rfl rfl (by decide +kernel) ⟨Nat.le_of_ble_eq_true rfl, Nat.le_of_ble_eq_true rfl⟩) hP hD hS hA hY rfl rfl (fst_Mo _ _ _ _ _) rfl hl.1 rfl (lv_room (Nat.le_of_ble_eq_true rfl)) dX7_offer_83 ⟨Nat.zero_le _, Nat.zero_le _⟩ (fun H locs hP hD hS => ?_)
            have hP : va_P G.1 vwCl (wMo G ad o (1, r.2.1, r.2.2.1, r.2.2.2.1, r.2.2.2.2.1, r.2.2.2.2.2.1, r.2.2.2.2.2.2.1, r.2.2.2.2.2.2.2.1, r.2.2.2.2.2.2.2.2.1, r.2.2.2.2.2.2.2.2.2.1, r.2.2.2.2.2.2.2.2.2.2.1, r.2.2.2.2.2.2.2.2.2.2.2.1, r.2.2.2.2.2.2.2.2.2.2.2.2)) H := hP
            have hD : va_D A (wMo G ad o (1, r.2.1, r.2.2.1, r.2.2.2.1, r.2.2.2.2.1, r.2.2.2.2.2.1, r.2.2.2.2.2.2.1, r.2.2.2.2.2.2.2.1, r.2.2.2.2.2.2.2.2.1, r.2.2.2.2.2.2.2.2.2.1, r.2.2.2.2.2.2.2.2.2.2.1, r.2.2.2.2.2.2.2.2.2.2.2.1, r.2.2.2.2.2.2.2.2.2.2.2.2)) := hD
            refine lv_if_eq (tgt := 91) hx hb dX7_offer_86 (by decide) (fun h86_23 => ?_) (fun h86_23 => ?_)
            · exact absurd h86_23 (by decide)
            · refine lv_iconst (v := 0) hx hb dX7_offer_89 (by decide) ?_
              exact wr_iret hx hb hr hlk hS hP (by first | with_reducible rfl | (simp only [sld_eq, q3_1, h6_2, q13_3, eq_true h16_21, eq_true h59_22, h86_23, ↓reduceIte]; done)) (by first | with_reducible rfl | (simp only [sld_eq, q3_1, h6_2, q13_3, eq_true h16_21, eq_true h59_22, h86_23, ↓reduceIte]; done)) dX7_offer_90
        · exact absurd rfl h16_21
  · refine rdS (w0 := ([] : va_W)) (As := [.int st, .int 0, .int 1]) (rest := []) CF (kn_X7_in l G st 0 1 q3_1) (va_cwS 3 hts gX7_offer_X7_in rfl rfl rfl (by decide +kernel) ⟨Nat.le_of_ble_eq_true rfl, Nat.le_of_ble_eq_true rfl⟩) va_P_nil hY rfl hl.1 rfl (lv_room (Nat.le_of_ble_eq_true rfl)) dX7_offer_3 ⟨Nat.zero_le _, Nat.zero_le _⟩ ?_
    refine lv_if_eq (tgt := 53) hx hb dX7_offer_6 (by decide) (fun h6_24 => ?_) (fun h6_24 => ?_)
    · refine lv_iconst (v := 0) hx hb dX7_offer_53 (by decide) ?_
      refine lv_istore (lv' := [(7, .int 0), (0, .ref (ad o)), (1, .int st), (2, .int ia), (3, .int wa), (4, .int gr), (5, .int fa), (6, .int sa)]) hx hb dX7_offer_54 hl (by decide) rfl (fun ls hl => ?_)
      refine lv_aload_n hx hb dX7_offer_56 rfl (lv_at hl 1 rfl) ?_
      refine lv_iload hx hb dX7_offer_57 (lv_at hl 0 rfl) ?_
      refine lv_if_ne (tgt := 66) hx hb dX7_offer_59 (by decide) (fun h59_25 => ?_) (fun h59_25 => ?_)
      · exact absurd rfl h59_25
      · refine lv_iconst (v := 1) hx hb dX7_offer_62 (by decide) ?_
        refine lv_goto (tgt := 83) hx hb dX7_offer_63 (by decide) ?_
        refine wrV [] (wMo G ad o r) [] (wMo G ad o (1, r.2)) (As := [.int 1]) (rest := []) CF (k1_X7_refused l G ad o r 1 (by decide)) (cwV 1 hts gX7_offer_X7_refused rfl rfl rfl (by decide +kernel) ⟨Nat.le_of_ble_eq_true rfl, Nat.le_of_ble_eq_true rfl⟩) hP hD hS hA hY rfl rfl (fst_Mo _ _ _ _ _) rfl hl.1 rfl (lv_room (Nat.le_of_ble_eq_true rfl)) dX7_offer_83 ⟨Nat.zero_le _, Nat.zero_le _⟩ (fun H locs hP hD hS => ?_)
        have hP : va_P G.1 vwCl (wMo G ad o (1, r.2.1, r.2.2.1, r.2.2.2.1, r.2.2.2.2.1, r.2.2.2.2.2.1, r.2.2.2.2.2.2.1, r.2.2.2.2.2.2.2.1, r.2.2.2.2.2.2.2.2.1, r.2.2.2.2.2.2.2.2.2.1, r.2.2.2.2.2.2.2.2.2.2.1, r.2.2.2.2.2.2.2.2.2.2.2.1, r.2.2.2.2.2.2.2.2.2.2.2.2)) H := hP
        have hD : va_D A (wMo G ad o (1, r.2.1, r.2.2.1, r.2.2.2.1, r.2.2.2.2.1, r.2.2.2.2.2.1, r.2.2.2.2.2.2.1, r.2.2.2.2.2.2.2.1, r.2.2.2.2.2.2.2.2.1, r.2.2.2.2.2.2.2.2.2.1, r.2.2.2.2.2.2.2.2.2.2.1, r.2.2.2.2.2.2.2.2.2.2.2.1, r.2.2.2.2.2.2.2.2.2.2.2.2)) := hD
        refine lv_if_eq (tgt := 91) hx hb dX7_offer_86 (by decide) (fun h86_26 => ?_) (fun h86_26 => ?_)
        · exact absurd h86_26 (by decide)
        · refine lv_iconst (v := 0) hx hb dX7_offer_89 (by decide) ?_
          exact wr_iret hx hb hr hlk hS hP (by first | with_reducible rfl | (simp only [sld_eq, q3_1, eq_true h6_24, eq_true h59_25, h86_26, ↓reduceIte]; done)) (by first | with_reducible rfl | (simp only [sld_eq, q3_1, eq_true h6_24, eq_true h59_25, h86_26, ↓reduceIte]; done)) dX7_offer_90
    · exact absurd rfl h6_24
