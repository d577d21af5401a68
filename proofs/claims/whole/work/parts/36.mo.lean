set_option maxHeartbeats 4000000 in
set_option maxRecDepth 100000 in
theorem k_X7_ranked (l : Launch) (G : GT) (ad : Nat → Nat) (o : Nat) (r : MoT) (st pl : Int32) : Rd l yX7_ranked wsX7_ranked { frames := 1, cells := 0, slots := 0, locals := 26 } G (wMo G ad o r) [.ref (ad o), .int st, .int pl] (.int (mRk r.2.2.2.1 r.2.2.2.2.2.1 r.2.2.2.2.2.2.2.1 st pl)) := by
  refine Met.ofW (cc := cX7_ranked) (maxL := 7) (ret := (some .int)) (by decide) rfl ?_
  intro p e s m args below meth c s₁ B hml hv
  obtain ⟨rfl, hP, hY⟩ := hv
  have hx := B.exec
  have hb := B.bytes
  have hr := B.returns
  have hts := atoms_spec (ws := wsX7_ranked) B.pre
  have hown : s.vm.findClass RX7 = some m.cls := findClass_of_methodNamed B.named
  have hlk := B.notSynchronized
  have CF : CallFix p m c cX7_ranked 7 s _ wsX7_ranked RX7 := ⟨hx, hb, hml, hown, hts⟩
  have hl := lv_entry ([.ref (ad o), .int st, .int pl]) (n := 7) (Nat.le_of_ble_eq_true rfl)
  rw [lg_entry_eq]
  generalize (lg_sl ([.ref (ad o), .int st, .int pl]) ++ List.replicate (7 - (lg_sl ([.ref (ad o), .int st, .int pl])).length) Slot.unset).toArray = ls at hl ⊢
  have hl : lv_has ls 7 [(0, .ref (ad o)), (1, .int st), (2, .int pl)] := hl
  refine lv_iconst (v := -1) hx hb dX7_ranked_0 (by decide) ?_
  refine lv_istore_n (lv' := [(3, .int (-1)), (0, .ref (ad o)), (1, .int st), (2, .int pl)]) hx hb dX7_ranked_1 rfl hl (by decide) rfl (fun ls hl => ?_)
  refine lv_iconst (v := 0) hx hb dX7_ranked_2 (by decide) ?_
  refine lv_istore (lv' := [(4, .int 0), (3, .int (-1)), (0, .ref (ad o)), (1, .int st), (2, .int pl)]) hx hb dX7_ranked_3 hl (by decide) rfl (fun ls hl => ?_)
  have loop1 : ∀ (fu : Nat) (a : Nat) (f : Int32), 600 - a < fu → mRkL r.2.2.2.1 r.2.2.2.2.2.1 r.2.2.2.2.2.2.2.1 st pl fu a f = mRkL r.2.2.2.1 r.2.2.2.2.2.1 r.2.2.2.2.2.2.2.1 st pl (600 - 0 + 1) 0 (-1) → a ≤ 600 → ∀ (ls : Array Slot), lv_has ls 7 [(3, .int f), (4, .int (nI a)), (0, .ref (ad o)), (1, .int st), (2, .int pl)] → W p l e (headSpec wsX7_ranked { frames := 1, cells := 0, slots := 0, locals := 26 }).room s m ([.ref (ad o), .int st, .int pl] : List Value).toArray below meth c s.heap [] 0 0 (MQ below (RQ (.int (mRk r.2.2.2.1 r.2.2.2.2.2.1 r.2.2.2.2.2.2.2.1 st pl))) ([.ref (ad o), .int st, .int pl] : List Value).toArray s 0 0 (fun _ => False)) (F0 m 5 ls []) := by
    intro fu
    induction fu with
    | zero => intro a f hm; exact absurd hm (Nat.not_lt_zero _)
    | succ fu ih =>
      intro a f hm hR1 hqa ls hl
      refine lv_iload hx hb dX7_ranked_5 (lv_at hl 1 rfl) ?_
      refine lv_sipush (v := 600) hx hb dX7_ranked_7 (by decide) ?_
      refine lv_icmp_ge (tgt := 105) hx hb dX7_ranked_10 (by decide) (fun h10_1 => ?_) (fun h10_1 => ?_)
      · refine lv_iload_n hx hb dX7_ranked_105 rfl (lv_at hl 0 rfl) ?_
        exact rd_iret hx hb hr hlk (by first | with_reducible rfl | (simp only [mRk, sld_eq, ↓reduceIte]; rw [← hR1]; simp only [mRkL, h10_1, ↓reduceIte]) | (rw [← hR1]; simp only [mRkL, h10_1, ↓reduceIte])) dX7_ranked_106
      · refine lv_iload_n hx hb dX7_ranked_13 rfl (lv_at hl 0 rfl) ?_
        refine lv_iconst (v := -1) hx hb dX7_ranked_14 (by decide) ?_
        refine lv_icmp_ne (tgt := 105) hx hb dX7_ranked_15 (by decide) (fun h15_2 => ?_) (fun h15_2 => ?_)
        · refine lv_iload_n hx hb dX7_ranked_105 rfl (lv_at hl 0 rfl) ?_
          exact rd_iret hx hb hr hlk (by first | with_reducible rfl | (simp only [mRk, sld_eq, ↓reduceIte]; rw [← hR1]; simp only [mRkL, h10_1, h15_2, ↓reduceIte]) | (rw [← hR1]; simp only [mRkL, h10_1, h15_2, ↓reduceIte])) dX7_ranked_106
        · refine lv_aload_n hx hb dX7_ranked_18 rfl (lv_at hl 2 rfl) ?_
          refine lv_iload_n hx hb dX7_ranked_19 rfl (lv_at hl 3 rfl) ?_
          refine lv_iload hx hb dX7_ranked_20 (lv_at hl 1 rfl) ?_
          refine rdV (w0 := (wMo G ad o r)) (As := [.int st, .int (nI a)]) (rest := []) CF (k_X7_isOf l G ad o r st (nI a) (of_in (lt600 hqa h10_1))) (cwV 2 hts gX7_ranked_X7_isOf rfl rfl rfl (by decide +kernel) ⟨Nat.le_of_ble_eq_true rfl, Nat.le_of_ble_eq_true rfl⟩) hP hY rfl rfl rfl hl.1 rfl (lv_room (Nat.le_of_ble_eq_true rfl)) dX7_ranked_22 ⟨Nat.zero_le _, Nat.zero_le _⟩ ?_
          refine lv_if_eq (tgt := 99) hx hb dX7_ranked_25 (by decide) (fun h25_3 => ?_) (fun h25_3 => ?_)
          · refine lv_iinc (v := (nI a) + 1) (lv' := [(4, .int ((nI a) + 1)), (3, .int f), (0, .ref (ad o)), (1, .int st), (2, .int pl)]) hx hb dX7_ranked_99 hl (k := 1) rfl rfl (by decide) rfl (fun ls hl => ?_)
            rw [show (nI a) + 1 = nI (a+1) from (nI_succ a).symm] at hl
            refine lv_goto (tgt := 5) hx hb dX7_ranked_102 (by decide) ?_
            exact ih (a+1) f (by have := (lt600 hqa h10_1); omega) (by rw [← hR1]; simp only [mRkL, h10_1, eq_true h15_2, eq_true h25_3, ↓reduceIte]) (lt600 hqa h10_1) ls (lv_sub hl [1, 0, 2, 3, 4] rfl)
          · refine lv_iconst (v := 0) hx hb dX7_ranked_28 (by decide) ?_
            refine lv_istore (lv' := [(5, .int 0), (3, .int f), (4, .int (nI a)), (0, .ref (ad o)), (1, .int st), (2, .int pl)]) hx hb dX7_ranked_29 hl (by decide) rfl (fun ls hl => ?_)
            refine lv_iconst (v := 0) hx hb dX7_ranked_31 (by decide) ?_
            refine lv_istore (lv' := [(6, .int 0), (5, .int 0), (3, .int f), (4, .int (nI a)), (0, .ref (ad o)), (1, .int st), (2, .int pl)]) hx hb dX7_ranked_32 hl (by decide) rfl (fun ls hl => ?_)
            have loop2 : ∀ (fu2 : Nat) (b : Nat) (x : Int32), 600 - b < fu2 → mRkN r.2.2.2.1 r.2.2.2.2.2.1 r.2.2.2.2.2.2.2.1 st a fu2 b x = mRkN r.2.2.2.1 r.2.2.2.2.2.1 r.2.2.2.2.2.2.2.1 st a (600 - 0 + 1) 0 0 → b ≤ 600 → ∀ (ls : Array Slot), lv_has ls 7 [(5, .int x), (6, .int (nI b)), (3, .int f), (4, .int (nI a)), (0, .ref (ad o)), (1, .int st), (2, .int pl)] → W p l e (headSpec wsX7_ranked { frames := 1, cells := 0, slots := 0, locals := 26 }).room s m ([.ref (ad o), .int st, .int pl] : List Value).toArray below meth c s.heap [] 0 0 (MQ below (RQ (.int (mRk r.2.2.2.1 r.2.2.2.2.2.1 r.2.2.2.2.2.2.2.1 st pl))) ([.ref (ad o), .int st, .int pl] : List Value).toArray s 0 0 (fun _ => False)) (F0 m 34 ls []) := by
              intro fu2
              induction fu2 with
              | zero => intro b x hm; exact absurd hm (Nat.not_lt_zero _)
              | succ fu2 ih2 =>
                intro b x hm2 hR2 hqb ls hl
                refine lv_iload hx hb dX7_ranked_34 (lv_at hl 1 rfl) ?_
                refine lv_sipush (v := 600) hx hb dX7_ranked_36 (by decide) ?_
                refine lv_icmp_ge (tgt := 86) hx hb dX7_ranked_39 (by decide) (fun h39_4 => ?_) (fun h39_4 => ?_)
                · obtain rfl : x = mRkN r.2.2.2.1 r.2.2.2.2.2.1 r.2.2.2.2.2.2.2.1 st a (600 - 0 + 1) 0 0 := by rw [← hR2]; simp only [mRkN, h39_4, ↓reduceIte]
                  refine lv_iload hx hb dX7_ranked_86 (lv_at hl 0 rfl) ?_
                  refine lv_iload_n hx hb dX7_ranked_88 rfl (lv_at hl 6 rfl) ?_
                  refine lv_icmp_ne (tgt := 97) hx hb dX7_ranked_89 (by decide) (fun h89_5 => ?_) (fun h89_5 => ?_)
                  · refine lv_iconst (v := -1) hx hb dX7_ranked_97 (by decide) ?_
                    refine lv_istore_n (lv' := [(3, .int (-1)), (5, .int (mRkN r.2.2.2.1 r.2.2.2.2.2.1 r.2.2.2.2.2.2.2.1 st a (600 - 0 + 1) 0 0)), (6, .int (nI b)), (4, .int (nI a)), (0, .ref (ad o)), (1, .int st), (2, .int pl)]) hx hb dX7_ranked_98 rfl hl (by decide) rfl (fun ls hl => ?_)
                    refine lv_iinc (v := (nI a) + 1) (lv' := [(4, .int ((nI a) + 1)), (3, .int (-1)), (5, .int (mRkN r.2.2.2.1 r.2.2.2.2.2.1 r.2.2.2.2.2.2.2.1 st a (600 - 0 + 1) 0 0)), (6, .int (nI b)), (0, .ref (ad o)), (1, .int st), (2, .int pl)]) hx hb dX7_ranked_99 hl (k := 3) rfl rfl (by decide) rfl (fun ls hl => ?_)
                    rw [show (nI a) + 1 = nI (a+1) from (nI_succ a).symm] at hl
                    refine lv_goto (tgt := 5) hx hb dX7_ranked_102 (by decide) ?_
                    exact ih (a+1) (-1) (by have := (lt600 hqa h10_1); omega) (by rw [← hR1]; simp only [mRkL, h10_1, eq_true h15_2, h25_3, h89_5, ↓reduceIte]) (lt600 hqa h10_1) ls (lv_sub hl [1, 0, 4, 5, 6] rfl)
                  · refine lv_iload hx hb dX7_ranked_92 (lv_at hl 3 rfl) ?_
                    refine lv_goto (tgt := 98) hx hb dX7_ranked_94 (by decide) ?_
                    refine lv_istore_n (lv' := [(3, .int (nI a)), (5, .int (mRkN r.2.2.2.1 r.2.2.2.2.2.1 r.2.2.2.2.2.2.2.1 st a (600 - 0 + 1) 0 0)), (6, .int (nI b)), (4, .int (nI a)), (0, .ref (ad o)), (1, .int st), (2, .int pl)]) hx hb dX7_ranked_98 rfl hl (by decide) rfl (fun ls hl => ?_)
                    refine lv_iinc (v := (nI a) + 1) (lv' := [(4, .int ((nI a) + 1)), (3, .int (nI a)), (5, .int (mRkN r.2.2.2.1 r.2.2.2.2.2.1 r.2.2.2.2.2.2.2.1 st a (600 - 0 + 1) 0 0)), (6, .int (nI b)), (0, .ref (ad o)), (1, .int st), (2, .int pl)]) hx hb dX7_ranked_99 hl (k := 3) rfl rfl (by decide) rfl (fun ls hl => ?_)
                    rw [show (nI a) + 1 = nI (a+1) from (nI_succ a).symm] at hl
                    refine lv_goto (tgt := 5) hx hb dX7_ranked_102 (by decide) ?_
                    exact ih (a+1) (nI a) (by have := (lt600 hqa h10_1); omega) (by rw [← hR1]; simp only [mRkL, h10_1, eq_true h15_2, h25_3, eq_true h89_5, ↓reduceIte]) (lt600 hqa h10_1) ls (lv_sub hl [1, 0, 4, 5, 6] rfl)
                · refine lv_iload hx hb dX7_ranked_42 (lv_at hl 0 rfl) ?_
                  refine lv_aload_n hx hb dX7_ranked_44 rfl (lv_at hl 4 rfl) ?_
                  refine lv_iload_n hx hb dX7_ranked_45 rfl (lv_at hl 5 rfl) ?_
                  refine lv_iload hx hb dX7_ranked_46 (lv_at hl 1 rfl) ?_
                  refine rdV (w0 := (wMo G ad o r)) (As := [.int st, .int (nI b)]) (rest := [.int x]) CF (k_X7_isOf l G ad o r st (nI b) (of_in (lt600 hqb h39_4))) (cwV 2 hts gX7_ranked_X7_isOf rfl rfl rfl (by decide +kernel) ⟨Nat.le_of_ble_eq_true rfl, Nat.le_of_ble_eq_true rfl⟩) hP hY rfl rfl rfl hl.1 rfl (lv_room (Nat.le_of_ble_eq_true rfl)) dX7_ranked_48 ⟨Nat.zero_le _, Nat.zero_le _⟩ ?_
                  refine lv_if_eq (tgt := 76) hx hb dX7_ranked_51 (by decide) (fun h51_6 => ?_) (fun h51_6 => ?_)
                  · refine lv_iconst (v := 0) hx hb dX7_ranked_76 (by decide) ?_
                    refine lv_iadd hx hb dX7_ranked_77 ?_
                    refine lv_istore (lv' := [(5, .int (x + 0)), (6, .int (nI b)), (3, .int f), (4, .int (nI a)), (0, .ref (ad o)), (1, .int st), (2, .int pl)]) hx hb dX7_ranked_78 hl (by decide) rfl (fun ls hl => ?_)
                    refine lv_iinc (v := (nI b) + 1) (lv' := [(6, .int ((nI b) + 1)), (5, .int (x + 0)), (3, .int f), (4, .int (nI a)), (0, .ref (ad o)), (1, .int st), (2, .int pl)]) hx hb dX7_ranked_80 hl (k := 1) rfl rfl (by decide) rfl (fun ls hl => ?_)
                    rw [show (nI b) + 1 = nI (b+1) from (nI_succ b).symm] at hl
                    refine lv_goto (tgt := 34) hx hb dX7_ranked_83 (by decide) ?_
                    exact ih2 (b+1) (x + 0) (by have := (lt600 hqb h39_4); omega) (by rw [← hR2]; simp only [mRkN, h39_4, eq_true h51_6, ↓reduceIte]) (lt600 hqb h39_4) ls (lv_sub hl [1, 0, 2, 3, 4, 5, 6] rfl)
                  · refine lv_iload hx hb dX7_ranked_54 (lv_at hl 1 rfl) ?_
                    refine lv_iload hx hb dX7_ranked_56 (lv_at hl 3 rfl) ?_
                    refine lv_icmp_eq (tgt := 76) hx hb dX7_ranked_58 (by decide) (fun h58_7 => ?_) (fun h58_7 => ?_)
                    · refine lv_iconst (v := 0) hx hb dX7_ranked_76 (by decide) ?_
                      refine lv_iadd hx hb dX7_ranked_77 ?_
                      refine lv_istore (lv' := [(5, .int (x + 0)), (6, .int (nI b)), (3, .int f), (4, .int (nI a)), (0, .ref (ad o)), (1, .int st), (2, .int pl)]) hx hb dX7_ranked_78 hl (by decide) rfl (fun ls hl => ?_)
                      refine lv_iinc (v := (nI b) + 1) (lv' := [(6, .int ((nI b) + 1)), (5, .int (x + 0)), (3, .int f), (4, .int (nI a)), (0, .ref (ad o)), (1, .int st), (2, .int pl)]) hx hb dX7_ranked_80 hl (k := 1) rfl rfl (by decide) rfl (fun ls hl => ?_)
                      rw [show (nI b) + 1 = nI (b+1) from (nI_succ b).symm] at hl
                      refine lv_goto (tgt := 34) hx hb dX7_ranked_83 (by decide) ?_
                      exact ih2 (b+1) (x + 0) (by have := (lt600 hqb h39_4); omega) (by rw [← hR2]; simp only [mRkN, h39_4, h51_6, eq_true h58_7, ↓reduceIte]) (lt600 hqb h39_4) ls (lv_sub hl [1, 0, 2, 3, 4, 5, 6] rfl)
                    · refine lv_aload_n hx hb dX7_ranked_61 rfl (lv_at hl 4 rfl) ?_
                      refine lv_iload hx hb dX7_ranked_62 (lv_at hl 1 rfl) ?_
                      refine lv_iload hx hb dX7_ranked_64 (lv_at hl 3 rfl) ?_
                      refine rdV (w0 := (wMo G ad o r)) (As := [.int (nI b), .int (nI a)]) (rest := [.int x]) CF (k_X7_isAhead l G ad o r (nI b) (nI a) (vp_nI (lt600 hqb h39_4) (by decide)) (vp_nI (lt600 hqa h10_1) (by decide))) (cwV 2 hts gX7_ranked_X7_isAhead rfl rfl rfl (by decide +kernel) ⟨Nat.le_of_ble_eq_true rfl, Nat.le_of_ble_eq_true rfl⟩) hP hY rfl rfl rfl hl.1 rfl (lv_room (Nat.le_of_ble_eq_true rfl)) dX7_ranked_66 ⟨Nat.zero_le _, Nat.zero_le _⟩ ?_
                      refine lv_if_eq (tgt := 76) hx hb dX7_ranked_69 (by decide) (fun h69_8 => ?_) (fun h69_8 => ?_)
                      · refine lv_iconst (v := 0) hx hb dX7_ranked_76 (by decide) ?_
                        refine lv_iadd hx hb dX7_ranked_77 ?_
                        refine lv_istore (lv' := [(5, .int (x + 0)), (6, .int (nI b)), (3, .int f), (4, .int (nI a)), (0, .ref (ad o)), (1, .int st), (2, .int pl)]) hx hb dX7_ranked_78 hl (by decide) rfl (fun ls hl => ?_)
                        refine lv_iinc (v := (nI b) + 1) (lv' := [(6, .int ((nI b) + 1)), (5, .int (x + 0)), (3, .int f), (4, .int (nI a)), (0, .ref (ad o)), (1, .int st), (2, .int pl)]) hx hb dX7_ranked_80 hl (k := 1) rfl rfl (by decide) rfl (fun ls hl => ?_)
                        rw [show (nI b) + 1 = nI (b+1) from (nI_succ b).symm] at hl
                        refine lv_goto (tgt := 34) hx hb dX7_ranked_83 (by decide) ?_
                        exact ih2 (b+1) (x + 0) (by have := (lt600 hqb h39_4); omega) (by rw [← hR2]; simp only [mRkN, h39_4, h51_6, h58_7, eq_true h69_8, ↓reduceIte]) (lt600 hqb h39_4) ls (lv_sub hl [1, 0, 2, 3, 4, 5, 6] rfl)
                      · refine lv_iconst (v := 1) hx hb dX7_ranked_72 (by decide) ?_
                        refine lv_goto (tgt := 77) hx hb dX7_ranked_73 (by decide) ?_
                        refine lv_iadd hx hb dX7_ranked_77 ?_
                        refine lv_istore (lv' := [(5, .int (x + 1)), (6, .int (nI b)), (3, .int f), (4, .int (nI a)), (0, .ref (ad o)), (1, .int st), (2, .int pl)]) hx hb dX7_ranked_78 hl (by decide) rfl (fun ls hl => ?_)
                        refine lv_iinc (v := (nI b) + 1) (lv' := [(6, .int ((nI b) + 1)), (5, .int (x + 1)), (3, .int f), (4, .int (nI a)), (0, .ref (ad o)), (1, .int st), (2, .int pl)]) hx hb dX7_ranked_80 hl (k := 1) rfl rfl (by decide) rfl (fun ls hl => ?_)
                        rw [show (nI b) + 1 = nI (b+1) from (nI_succ b).symm] at hl
                        refine lv_goto (tgt := 34) hx hb dX7_ranked_83 (by decide) ?_
                        exact ih2 (b+1) (x + 1) (by have := (lt600 hqb h39_4); omega) (by rw [← hR2]; simp only [mRkN, h39_4, h51_6, h58_7, h69_8, ↓reduceIte]) (lt600 hqb h39_4) ls (lv_sub hl [1, 0, 2, 3, 4, 5, 6] rfl)
            exact loop2 _ 0 0 (Nat.lt_succ_self _) rfl (Nat.zero_le _) ls (lv_sub hl [1, 0, 2, 3, 4, 5, 6] rfl)
  exact loop1 _ 0 (-1) (Nat.lt_succ_self _) rfl (Nat.zero_le _) ls (lv_sub hl [1, 0, 2, 3, 4] rfl)
