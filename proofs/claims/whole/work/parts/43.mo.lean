set_option maxHeartbeats 4000000 in
set_option maxRecDepth 100000 in
theorem k_X7_inSlot (l : Launch) (G : GT) (ad : Nat → Nat) (o : Nat) (r : MoT) (st g sl : Int32) (h0 : okA st 0 1) (hB : okB r.2.2.2.1 st) : Rd l yX7_inSlot wsX7_inSlot { frames := 0, cells := 0, slots := 0, locals := 0 } G (wMo G ad o r) [.ref (ad o), .int st, .int g, .int sl] (.int (mSl r.2.2.2.1 r.2.1 r.2.2.2.2.2.2.1 r.2.2.2.2.2.2.2.1 st g sl)) := by
  refine Met.ofW (cc := cX7_inSlot) (maxL := 8) (ret := (some .int)) (by decide) rfl ?_
  intro p e s m args below meth c s₁ B hml hv
  obtain ⟨rfl, hP, hY⟩ := hv
  have hx := B.exec
  have hb := B.bytes
  have hr := B.returns
  have hts := atoms_spec (ws := wsX7_inSlot) B.pre
  have hown : s.vm.findClass RX7 = some m.cls := findClass_of_methodNamed B.named
  have hlk := B.notSynchronized
  have CF : CallFix p m c cX7_inSlot 8 s _ wsX7_inSlot RX7 := ⟨hx, hb, hml, hown, hts⟩
  have hiX7 : ∀ w ∈ wsX70, w ∈ wsX7_inSlot := fun w h => (List.mem_cons_of_mem _ (List.mem_append_right _ h))
  have kf16 := hts (.fieldLink RX7 16 "ReservoirReedModel" "many" "[I") (List.mem_cons_of_mem _ (List.mem_append_left _ (List.mem_of_getElem? (i := 0) rfl)))
  have kf7 := hts (.fieldLink RX7 7 "ReservoirReedModel" "size" "I") (List.mem_cons_of_mem _ (List.mem_append_left _ (List.mem_of_getElem? (i := 2) rfl)))
  have kf29 := hts (.fieldLink RX7 29 "ReservoirReedModel" "firsts" "[I") (List.mem_cons_of_mem _ (List.mem_append_left _ (List.mem_of_getElem? (i := 3) rfl)))
  have kf26 := hts (.fieldLink RX7 26 "ReservoirReedModel" "groups" "[I") (List.mem_cons_of_mem _ (List.mem_append_left _ (List.mem_of_getElem? (i := 1) rfl)))
  have hl := lv_entry ([.ref (ad o), .int st, .int g, .int sl]) (n := 8) (Nat.le_of_ble_eq_true rfl)
  rw [lg_entry_eq]
  generalize (lg_sl ([.ref (ad o), .int st, .int g, .int sl]) ++ List.replicate (8 - (lg_sl ([.ref (ad o), .int st, .int g, .int sl])).length) Slot.unset).toArray = ls at hl ⊢
  have hl : lv_has ls 8 [(0, .ref (ad o)), (1, .int st), (2, .int g), (3, .int sl)] := hl
  refine lv_iconst (v := -1) hx hb dX7_inSlot_0 (by decide) ?_
  refine lv_istore (lv' := [(4, .int (-1)), (0, .ref (ad o)), (1, .int st), (2, .int g), (3, .int sl)]) hx hb dX7_inSlot_1 hl (by decide) rfl (fun ls hl => ?_)
  refine lv_iconst (v := 0) hx hb dX7_inSlot_3 (by decide) ?_
  refine lv_istore (lv' := [(5, .int 0), (4, .int (-1)), (0, .ref (ad o)), (1, .int st), (2, .int g), (3, .int sl)]) hx hb dX7_inSlot_4 hl (by decide) rfl (fun ls hl => ?_)
  refine lv_sipush (v := 300) hx hb dX7_inSlot_6 (by decide) ?_
  refine lv_iload_n hx hb dX7_inSlot_9 rfl (lv_at hl 3 rfl) ?_
  refine lv_imul hx hb dX7_inSlot_10 ?_
  refine lv_istore (lv' := [(6, .int (300 * st)), (5, .int 0), (4, .int (-1)), (0, .ref (ad o)), (1, .int st), (2, .int g), (3, .int sl)]) hx hb dX7_inSlot_11 hl (by decide) rfl (fun ls hl => ?_)
  have loop1 : ∀ (fu : Nat) (f : Int32) (n : Int32) (i : Int32), (((300 * st) + (r.2.2.2.1 st.toNatClampNeg)).toInt - i.toInt).toNat < fu → mSlL r.2.1 r.2.2.2.2.2.2.1 r.2.2.2.2.2.2.2.1 g sl ((300 * st) + (r.2.2.2.1 st.toNatClampNeg)) fu f n i = mSlL r.2.1 r.2.2.2.2.2.2.1 r.2.2.2.2.2.2.2.1 g sl ((300 * st) + (r.2.2.2.1 st.toNatClampNeg)) ((((300 * st) + (r.2.2.2.1 st.toNatClampNeg)).toInt - ((300 * st)).toInt).toNat + 1) (-1) 0 (300 * st) → slI (300 * st) i n → ∀ (ls : Array Slot), lv_has ls 8 [(6, .int i), (5, .int n), (4, .int f), (0, .ref (ad o)), (1, .int st), (2, .int g), (3, .int sl)] → W p l e (headSpec wsX7_inSlot { frames := 0, cells := 0, slots := 0, locals := 0 }).room s m ([.ref (ad o), .int st, .int g, .int sl] : List Value).toArray below meth c s.heap [] 0 0 (MQ below (RQ (.int (mSl r.2.2.2.1 r.2.1 r.2.2.2.2.2.2.1 r.2.2.2.2.2.2.2.1 st g sl))) ([.ref (ad o), .int st, .int g, .int sl] : List Value).toArray s 0 0 (fun _ => False)) (F0 m 13 ls []) := by
    intro fu
    induction fu with
    | zero => intro f n i hm; exact absurd hm (Nat.not_lt_zero _)
    | succ fu ih =>
      intro f n i hm hR1 hq ls hl
      refine lv_iload hx hb dX7_inSlot_13 (lv_at hl 0 rfl) ?_
      refine lv_sipush (v := 300) hx hb dX7_inSlot_15 (by decide) ?_
      refine lv_iload_n hx hb dX7_inSlot_18 rfl (lv_at hl 4 rfl) ?_
      refine lv_imul hx hb dX7_inSlot_19 ?_
      refine lv_aload_n hx hb dX7_inSlot_20 rfl (lv_at hl 3 rfl) ?_
      refine va_get (D := G.1) (ci := 7) (v := .ref (ad (o+1))) (C := RX7) (T := TX7) (N := 13) hx hb hts hiX7 hown hY.1 hP 0 rfl rfl 3 (by decide) kf16 (fun _ h9 => h9) rfl dX7_inSlot_21 ?_
      refine lv_iload_n hx hb dX7_inSlot_24 rfl (lv_at hl 4 rfl) ?_
      refine va_iald hx hb hY.1 hP 1 0 rfl rfl (vp_st1 h0) dX7_inSlot_25 ?_
      refine lv_iadd hx hb dX7_inSlot_26 ?_
      refine lv_icmp_ge (tgt := 107) hx hb dX7_inSlot_27 (by decide) (fun h27_1 => ?_) (fun h27_1 => ?_)
      · refine lv_iload hx hb dX7_inSlot_107 (lv_at hl 2 rfl) ?_
        exact rd_iret hx hb hr hlk (by first | with_reducible rfl | (simp only [mSl, sld_eq, ↓reduceIte]; rw [← hR1]; simp only [mSlL, h27_1, ↓reduceIte]) | (rw [← hR1]; simp only [mSlL, h27_1, ↓reduceIte])) dX7_inSlot_109
      · refine lv_iload_n hx hb dX7_inSlot_30 rfl (lv_at hl 5 rfl) ?_
        refine lv_iconst (v := -1) hx hb dX7_inSlot_31 (by decide) ?_
        refine lv_icmp_eq (tgt := 46) hx hb dX7_inSlot_32 (by decide) (fun h32_2 => ?_) (fun h32_2 => ?_)
        · refine lv_iinc (v := n + 1) (lv' := [(5, .int (n + 1)), (6, .int i), (4, .int f), (0, .ref (ad o)), (1, .int st), (2, .int g), (3, .int sl)]) hx hb dX7_inSlot_46 hl (k := 1) rfl rfl (by decide) rfl (fun ls hl => ?_)
          refine lv_iload hx hb dX7_inSlot_49 (lv_at hl 0 rfl) ?_
          refine lv_aload_n hx hb dX7_inSlot_51 rfl (lv_at hl 3 rfl) ?_
          refine va_get (D := G.1) (ci := 7) (v := .int r.2.1) (C := RX7) (T := TX7) (N := 13) hx hb hts hiX7 hown hY.1 hP 0 rfl rfl 1 (by decide) kf7 (fun _ h9 => h9) rfl dX7_inSlot_52 ?_
          refine lv_icmp_gt (tgt := 65) hx hb dX7_inSlot_55 (by decide) (fun h55_3 => ?_) (fun h55_3 => ?_)
          · refine lv_aload_n hx hb dX7_inSlot_65 rfl (lv_at hl 3 rfl) ?_
            refine va_get (D := G.1) (ci := 7) (v := .ref (ad (o+5))) (C := RX7) (T := TX7) (N := 13) hx hb hts hiX7 hown hY.1 hP 0 rfl rfl 7 (by decide) kf29 (fun _ h9 => h9) rfl dX7_inSlot_66 ?_
            refine lv_iload hx hb dX7_inSlot_69 (lv_at hl 1 rfl) ?_
            refine va_iald hx hb hY.1 hP 5 0 rfl rfl (hB.2 i hq.1 h27_1) dX7_inSlot_71 ?_
            refine lv_iload hx hb dX7_inSlot_72 (lv_at hl 0 rfl) ?_
            refine lv_irem hx hb dX7_inSlot_74 (slI_ne hq h27_1) ?_
            refine lv_istore (lv' := [(7, .int ((r.2.2.2.2.2.2.2.1 i.toNatClampNeg) - (r.2.2.2.2.2.2.2.1 i.toNatClampNeg) / (n + 1) * (n + 1))), (5, .int (n + 1)), (6, .int i), (4, .int f), (0, .ref (ad o)), (1, .int st), (2, .int g), (3, .int sl)]) hx hb dX7_inSlot_75 hl (by decide) rfl (fun ls hl => ?_)
            refine lv_iload hx hb dX7_inSlot_77 (lv_at hl 0 rfl) ?_
            refine lv_iload_n hx hb dX7_inSlot_79 rfl (lv_at hl 7 rfl) ?_
            refine lv_icmp_ne (tgt := 97) hx hb dX7_inSlot_80 (by decide) (fun h80_4 => ?_) (fun h80_4 => ?_)
            · refine lv_iload hx hb dX7_inSlot_97 (lv_at hl 3 rfl) ?_
              refine lv_istore (lv' := [(4, .int f), (7, .int ((r.2.2.2.2.2.2.2.1 i.toNatClampNeg) - (r.2.2.2.2.2.2.2.1 i.toNatClampNeg) / (n + 1) * (n + 1))), (5, .int (n + 1)), (6, .int i), (0, .ref (ad o)), (1, .int st), (2, .int g), (3, .int sl)]) hx hb dX7_inSlot_99 hl (by decide) rfl (fun ls hl => ?_)
              refine lv_iinc (v := i + 1) (lv' := [(6, .int (i + 1)), (4, .int f), (7, .int ((r.2.2.2.2.2.2.2.1 i.toNatClampNeg) - (r.2.2.2.2.2.2.2.1 i.toNatClampNeg) / (n + 1) * (n + 1))), (5, .int (n + 1)), (0, .ref (ad o)), (1, .int st), (2, .int g), (3, .int sl)]) hx hb dX7_inSlot_101 hl (k := 3) rfl rfl (by decide) rfl (fun ls hl => ?_)
              refine lv_goto (tgt := 13) hx hb dX7_inSlot_104 (by decide) ?_
              exact ih f (n + 1) (i + 1) (ms_up h27_1 hm) (by rw [← hR1]; simp only [mSlL, h27_1, eq_true h32_2, h55_3, h80_4, ↓reduceIte]) (slI_up hq h27_1) ls (lv_sub hl [0, 3, 1, 4, 5, 6, 7] rfl)
            · refine lv_iload hx hb dX7_inSlot_83 (lv_at hl 0 rfl) ?_
              refine lv_aload_n hx hb dX7_inSlot_85 rfl (lv_at hl 4 rfl) ?_
              refine va_get (D := G.1) (ci := 7) (v := .int r.2.1) (C := RX7) (T := TX7) (N := 13) hx hb hts hiX7 hown hY.1 hP 0 rfl rfl 1 (by decide) kf7 (fun _ h9 => h9) rfl dX7_inSlot_86 ?_
              refine lv_icmp_ge (tgt := 97) hx hb dX7_inSlot_89 (by decide) (fun h89_5 => ?_) (fun h89_5 => ?_)
              · refine lv_iload hx hb dX7_inSlot_97 (lv_at hl 3 rfl) ?_
                refine lv_istore (lv' := [(4, .int f), (7, .int ((r.2.2.2.2.2.2.2.1 i.toNatClampNeg) - (r.2.2.2.2.2.2.2.1 i.toNatClampNeg) / (n + 1) * (n + 1))), (5, .int (n + 1)), (6, .int i), (0, .ref (ad o)), (1, .int st), (2, .int g), (3, .int sl)]) hx hb dX7_inSlot_99 hl (by decide) rfl (fun ls hl => ?_)
                refine lv_iinc (v := i + 1) (lv' := [(6, .int (i + 1)), (4, .int f), (7, .int ((r.2.2.2.2.2.2.2.1 i.toNatClampNeg) - (r.2.2.2.2.2.2.2.1 i.toNatClampNeg) / (n + 1) * (n + 1))), (5, .int (n + 1)), (0, .ref (ad o)), (1, .int st), (2, .int g), (3, .int sl)]) hx hb dX7_inSlot_101 hl (k := 3) rfl rfl (by decide) rfl (fun ls hl => ?_)
                refine lv_goto (tgt := 13) hx hb dX7_inSlot_104 (by decide) ?_
                exact ih f (n + 1) (i + 1) (ms_up h27_1 hm) (by rw [← hR1]; simp only [mSlL, h27_1, eq_true h32_2, h55_3, eq_true h80_4, h89_5, ↓reduceIte]) (slI_up hq h27_1) ls (lv_sub hl [0, 3, 1, 4, 5, 6, 7] rfl)
              · refine lv_iload hx hb dX7_inSlot_92 (lv_at hl 2 rfl) ?_
                refine lv_goto (tgt := 99) hx hb dX7_inSlot_94 (by decide) ?_
                refine lv_istore (lv' := [(4, .int i), (7, .int ((r.2.2.2.2.2.2.2.1 i.toNatClampNeg) - (r.2.2.2.2.2.2.2.1 i.toNatClampNeg) / (n + 1) * (n + 1))), (5, .int (n + 1)), (6, .int i), (0, .ref (ad o)), (1, .int st), (2, .int g), (3, .int sl)]) hx hb dX7_inSlot_99 hl (by decide) rfl (fun ls hl => ?_)
                refine lv_iinc (v := i + 1) (lv' := [(6, .int (i + 1)), (4, .int i), (7, .int ((r.2.2.2.2.2.2.2.1 i.toNatClampNeg) - (r.2.2.2.2.2.2.2.1 i.toNatClampNeg) / (n + 1) * (n + 1))), (5, .int (n + 1)), (0, .ref (ad o)), (1, .int st), (2, .int g), (3, .int sl)]) hx hb dX7_inSlot_101 hl (k := 3) rfl rfl (by decide) rfl (fun ls hl => ?_)
                refine lv_goto (tgt := 13) hx hb dX7_inSlot_104 (by decide) ?_
                exact ih i (n + 1) (i + 1) (ms_up h27_1 hm) (by rw [← hR1]; simp only [mSlL, h27_1, eq_true h32_2, h55_3, eq_true h80_4, h89_5, ↓reduceIte]) (slI_up hq h27_1) ls (lv_sub hl [0, 3, 1, 4, 5, 6, 7] rfl)
          · refine lv_iload hx hb dX7_inSlot_58 (lv_at hl 0 rfl) ?_
            refine lv_iconst (v := 1) hx hb dX7_inSlot_60 (by decide) ?_
            refine lv_isub hx hb dX7_inSlot_61 ?_
            refine lv_goto (tgt := 75) hx hb dX7_inSlot_62 (by decide) ?_
            refine lv_istore (lv' := [(7, .int ((n + 1) - 1)), (5, .int (n + 1)), (6, .int i), (4, .int f), (0, .ref (ad o)), (1, .int st), (2, .int g), (3, .int sl)]) hx hb dX7_inSlot_75 hl (by decide) rfl (fun ls hl => ?_)
            refine lv_iload hx hb dX7_inSlot_77 (lv_at hl 0 rfl) ?_
            refine lv_iload_n hx hb dX7_inSlot_79 rfl (lv_at hl 7 rfl) ?_
            refine lv_icmp_ne (tgt := 97) hx hb dX7_inSlot_80 (by decide) (fun h80_6 => ?_) (fun h80_6 => ?_)
            · refine lv_iload hx hb dX7_inSlot_97 (lv_at hl 3 rfl) ?_
              refine lv_istore (lv' := [(4, .int f), (7, .int ((n + 1) - 1)), (5, .int (n + 1)), (6, .int i), (0, .ref (ad o)), (1, .int st), (2, .int g), (3, .int sl)]) hx hb dX7_inSlot_99 hl (by decide) rfl (fun ls hl => ?_)
              refine lv_iinc (v := i + 1) (lv' := [(6, .int (i + 1)), (4, .int f), (7, .int ((n + 1) - 1)), (5, .int (n + 1)), (0, .ref (ad o)), (1, .int st), (2, .int g), (3, .int sl)]) hx hb dX7_inSlot_101 hl (k := 3) rfl rfl (by decide) rfl (fun ls hl => ?_)
              refine lv_goto (tgt := 13) hx hb dX7_inSlot_104 (by decide) ?_
              exact ih f (n + 1) (i + 1) (ms_up h27_1 hm) (by rw [← hR1]; simp only [mSlL, h27_1, eq_true h32_2, h55_3, h80_6, ↓reduceIte]) (slI_up hq h27_1) ls (lv_sub hl [0, 3, 1, 4, 5, 6, 7] rfl)
            · refine lv_iload hx hb dX7_inSlot_83 (lv_at hl 0 rfl) ?_
              refine lv_aload_n hx hb dX7_inSlot_85 rfl (lv_at hl 4 rfl) ?_
              refine va_get (D := G.1) (ci := 7) (v := .int r.2.1) (C := RX7) (T := TX7) (N := 13) hx hb hts hiX7 hown hY.1 hP 0 rfl rfl 1 (by decide) kf7 (fun _ h9 => h9) rfl dX7_inSlot_86 ?_
              refine lv_icmp_ge (tgt := 97) hx hb dX7_inSlot_89 (by decide) (fun h89_7 => ?_) (fun h89_7 => ?_)
              · refine lv_iload hx hb dX7_inSlot_97 (lv_at hl 3 rfl) ?_
                refine lv_istore (lv' := [(4, .int f), (7, .int ((n + 1) - 1)), (5, .int (n + 1)), (6, .int i), (0, .ref (ad o)), (1, .int st), (2, .int g), (3, .int sl)]) hx hb dX7_inSlot_99 hl (by decide) rfl (fun ls hl => ?_)
                refine lv_iinc (v := i + 1) (lv' := [(6, .int (i + 1)), (4, .int f), (7, .int ((n + 1) - 1)), (5, .int (n + 1)), (0, .ref (ad o)), (1, .int st), (2, .int g), (3, .int sl)]) hx hb dX7_inSlot_101 hl (k := 3) rfl rfl (by decide) rfl (fun ls hl => ?_)
                refine lv_goto (tgt := 13) hx hb dX7_inSlot_104 (by decide) ?_
                exact ih f (n + 1) (i + 1) (ms_up h27_1 hm) (by rw [← hR1]; simp only [mSlL, h27_1, eq_true h32_2, h55_3, eq_true h80_6, h89_7, ↓reduceIte]) (slI_up hq h27_1) ls (lv_sub hl [0, 3, 1, 4, 5, 6, 7] rfl)
              · refine lv_iload hx hb dX7_inSlot_92 (lv_at hl 2 rfl) ?_
                refine lv_goto (tgt := 99) hx hb dX7_inSlot_94 (by decide) ?_
                refine lv_istore (lv' := [(4, .int i), (7, .int ((n + 1) - 1)), (5, .int (n + 1)), (6, .int i), (0, .ref (ad o)), (1, .int st), (2, .int g), (3, .int sl)]) hx hb dX7_inSlot_99 hl (by decide) rfl (fun ls hl => ?_)
                refine lv_iinc (v := i + 1) (lv' := [(6, .int (i + 1)), (4, .int i), (7, .int ((n + 1) - 1)), (5, .int (n + 1)), (0, .ref (ad o)), (1, .int st), (2, .int g), (3, .int sl)]) hx hb dX7_inSlot_101 hl (k := 3) rfl rfl (by decide) rfl (fun ls hl => ?_)
                refine lv_goto (tgt := 13) hx hb dX7_inSlot_104 (by decide) ?_
                exact ih i (n + 1) (i + 1) (ms_up h27_1 hm) (by rw [← hR1]; simp only [mSlL, h27_1, eq_true h32_2, h55_3, eq_true h80_6, h89_7, ↓reduceIte]) (slI_up hq h27_1) ls (lv_sub hl [0, 3, 1, 4, 5, 6, 7] rfl)
        · refine lv_aload_n hx hb dX7_inSlot_35 rfl (lv_at hl 3 rfl) ?_
          refine va_get (D := G.1) (ci := 7) (v := .ref (ad (o+4))) (C := RX7) (T := TX7) (N := 13) hx hb hts hiX7 hown hY.1 hP 0 rfl rfl 6 (by decide) kf26 (fun _ h9 => h9) rfl dX7_inSlot_36 ?_
          refine lv_iload hx hb dX7_inSlot_39 (lv_at hl 0 rfl) ?_
          refine va_iald hx hb hY.1 hP 4 0 rfl rfl (hB.2 i hq.1 h27_1) dX7_inSlot_41 ?_
          refine lv_iload_n hx hb dX7_inSlot_42 rfl (lv_at hl 5 rfl) ?_
          refine lv_icmp_ne (tgt := 101) hx hb dX7_inSlot_43 (by decide) (fun h43_8 => ?_) (fun h43_8 => ?_)
          · refine lv_iinc (v := i + 1) (lv' := [(6, .int (i + 1)), (5, .int n), (4, .int f), (0, .ref (ad o)), (1, .int st), (2, .int g), (3, .int sl)]) hx hb dX7_inSlot_101 hl (k := 0) rfl rfl (by decide) rfl (fun ls hl => ?_)
            refine lv_goto (tgt := 13) hx hb dX7_inSlot_104 (by decide) ?_
            exact ih f n (i + 1) (ms_up h27_1 hm) (by rw [← hR1]; simp only [mSlL, h27_1, h32_2, h43_8, ↓reduceIte]) (slI_same hq h27_1) ls (lv_sub hl [0, 1, 2, 3, 4, 5, 6] rfl)
          · refine lv_iinc (v := n + 1) (lv' := [(5, .int (n + 1)), (6, .int i), (4, .int f), (0, .ref (ad o)), (1, .int st), (2, .int g), (3, .int sl)]) hx hb dX7_inSlot_46 hl (k := 1) rfl rfl (by decide) rfl (fun ls hl => ?_)
            refine lv_iload hx hb dX7_inSlot_49 (lv_at hl 0 rfl) ?_
            refine lv_aload_n hx hb dX7_inSlot_51 rfl (lv_at hl 3 rfl) ?_
            refine va_get (D := G.1) (ci := 7) (v := .int r.2.1) (C := RX7) (T := TX7) (N := 13) hx hb hts hiX7 hown hY.1 hP 0 rfl rfl 1 (by decide) kf7 (fun _ h9 => h9) rfl dX7_inSlot_52 ?_
            refine lv_icmp_gt (tgt := 65) hx hb dX7_inSlot_55 (by decide) (fun h55_9 => ?_) (fun h55_9 => ?_)
            · refine lv_aload_n hx hb dX7_inSlot_65 rfl (lv_at hl 3 rfl) ?_
              refine va_get (D := G.1) (ci := 7) (v := .ref (ad (o+5))) (C := RX7) (T := TX7) (N := 13) hx hb hts hiX7 hown hY.1 hP 0 rfl rfl 7 (by decide) kf29 (fun _ h9 => h9) rfl dX7_inSlot_66 ?_
              refine lv_iload hx hb dX7_inSlot_69 (lv_at hl 1 rfl) ?_
              refine va_iald hx hb hY.1 hP 5 0 rfl rfl (hB.2 i hq.1 h27_1) dX7_inSlot_71 ?_
              refine lv_iload hx hb dX7_inSlot_72 (lv_at hl 0 rfl) ?_
              refine lv_irem hx hb dX7_inSlot_74 (slI_ne hq h27_1) ?_
              refine lv_istore (lv' := [(7, .int ((r.2.2.2.2.2.2.2.1 i.toNatClampNeg) - (r.2.2.2.2.2.2.2.1 i.toNatClampNeg) / (n + 1) * (n + 1))), (5, .int (n + 1)), (6, .int i), (4, .int f), (0, .ref (ad o)), (1, .int st), (2, .int g), (3, .int sl)]) hx hb dX7_inSlot_75 hl (by decide) rfl (fun ls hl => ?_)
              refine lv_iload hx hb dX7_inSlot_77 (lv_at hl 0 rfl) ?_
              refine lv_iload_n hx hb dX7_inSlot_79 rfl (lv_at hl 7 rfl) ?_
              refine lv_icmp_ne (tgt := 97) hx hb dX7_inSlot_80 (by decide) (fun h80_10 => ?_) (fun h80_10 => ?_)
              · refine lv_iload hx hb dX7_inSlot_97 (lv_at hl 3 rfl) ?_
                refine lv_istore (lv' := [(4, .int f), (7, .int ((r.2.2.2.2.2.2.2.1 i.toNatClampNeg) - (r.2.2.2.2.2.2.2.1 i.toNatClampNeg) / (n + 1) * (n + 1))), (5, .int (n + 1)), (6, .int i), (0, .ref (ad o)), (1, .int st), (2, .int g), (3, .int sl)]) hx hb dX7_inSlot_99 hl (by decide) rfl (fun ls hl => ?_)
                refine lv_iinc (v := i + 1) (lv' := [(6, .int (i + 1)), (4, .int f), (7, .int ((r.2.2.2.2.2.2.2.1 i.toNatClampNeg) - (r.2.2.2.2.2.2.2.1 i.toNatClampNeg) / (n + 1) * (n + 1))), (5, .int (n + 1)), (0, .ref (ad o)), (1, .int st), (2, .int g), (3, .int sl)]) hx hb dX7_inSlot_101 hl (k := 3) rfl rfl (by decide) rfl (fun ls hl => ?_)
                refine lv_goto (tgt := 13) hx hb dX7_inSlot_104 (by decide) ?_
                exact ih f (n + 1) (i + 1) (ms_up h27_1 hm) (by rw [← hR1]; simp only [mSlL, h27_1, h32_2, eq_true h43_8, h55_9, h80_10, ↓reduceIte]) (slI_up hq h27_1) ls (lv_sub hl [0, 3, 1, 4, 5, 6, 7] rfl)
              · refine lv_iload hx hb dX7_inSlot_83 (lv_at hl 0 rfl) ?_
                refine lv_aload_n hx hb dX7_inSlot_85 rfl (lv_at hl 4 rfl) ?_
                refine va_get (D := G.1) (ci := 7) (v := .int r.2.1) (C := RX7) (T := TX7) (N := 13) hx hb hts hiX7 hown hY.1 hP 0 rfl rfl 1 (by decide) kf7 (fun _ h9 => h9) rfl dX7_inSlot_86 ?_
                refine lv_icmp_ge (tgt := 97) hx hb dX7_inSlot_89 (by decide) (fun h89_11 => ?_) (fun h89_11 => ?_)
                · refine lv_iload hx hb dX7_inSlot_97 (lv_at hl 3 rfl) ?_
                  refine lv_istore (lv' := [(4, .int f), (7, .int ((r.2.2.2.2.2.2.2.1 i.toNatClampNeg) - (r.2.2.2.2.2.2.2.1 i.toNatClampNeg) / (n + 1) * (n + 1))), (5, .int (n + 1)), (6, .int i), (0, .ref (ad o)), (1, .int st), (2, .int g), (3, .int sl)]) hx hb dX7_inSlot_99 hl (by decide) rfl (fun ls hl => ?_)
                  refine lv_iinc (v := i + 1) (lv' := [(6, .int (i + 1)), (4, .int f), (7, .int ((r.2.2.2.2.2.2.2.1 i.toNatClampNeg) - (r.2.2.2.2.2.2.2.1 i.toNatClampNeg) / (n + 1) * (n + 1))), (5, .int (n + 1)), (0, .ref (ad o)), (1, .int st), (2, .int g), (3, .int sl)]) hx hb dX7_inSlot_101 hl (k := 3) rfl rfl (by decide) rfl (fun ls hl => ?_)
                  refine lv_goto (tgt := 13) hx hb dX7_inSlot_104 (by decide) ?_
                  exact ih f (n + 1) (i + 1) (ms_up h27_1 hm) (by rw [← hR1]; simp only [mSlL, h27_1, h32_2, eq_true h43_8, h55_9, eq_true h80_10, h89_11, ↓reduceIte]) (slI_up hq h27_1) ls (lv_sub hl [0, 3, 1, 4, 5, 6, 7] rfl)
                · refine lv_iload hx hb dX7_inSlot_92 (lv_at hl 2 rfl) ?_
                  refine lv_goto (tgt := 99) hx hb dX7_inSlot_94 (by decide) ?_
                  refine lv_istore (lv' := [(4, .int i), (7, .int ((r.2.2.2.2.2.2.2.1 i.toNatClampNeg) - (r.2.2.2.2.2.2.2.1 i.toNatClampNeg) / (n + 1) * (n + 1))), (5, .int (n + 1)), (6, .int i), (0, .ref (ad o)), (1, .int st), (2, .int g), (3, .int sl)]) hx hb dX7_inSlot_99 hl (by decide) rfl (fun ls hl => ?_)
                  refine lv_iinc (v := i + 1) (lv' := [(6, .int (i + 1)), (4, .int i), (7, .int ((r.2.2.2.2.2.2.2.1 i.toNatClampNeg) - (r.2.2.2.2.2.2.2.1 i.toNatClampNeg) / (n + 1) * (n + 1))), (5, .int (n + 1)), (0, .ref (ad o)), (1, .int st), (2, .int g), (3, .int sl)]) hx hb dX7_inSlot_101 hl (k := 3) rfl rfl (by decide) rfl (fun ls hl => ?_)
                  refine lv_goto (tgt := 13) hx hb dX7_inSlot_104 (by decide) ?_
                  exact ih i (n + 1) (i + 1) (ms_up h27_1 hm) (by rw [← hR1]; simp only [mSlL, h27_1, h32_2, eq_true h43_8, h55_9, eq_true h80_10, h89_11, ↓reduceIte]) (slI_up hq h27_1) ls (lv_sub hl [0, 3, 1, 4, 5, 6, 7] rfl)
            · refine lv_iload hx hb dX7_inSlot_58 (lv_at hl 0 rfl) ?_
              refine lv_iconst (v := 1) hx hb dX7_inSlot_60 (by decide) ?_
              refine lv_isub hx hb dX7_inSlot_61 ?_
              refine lv_goto (tgt := 75) hx hb dX7_inSlot_62 (by decide) ?_
              refine lv_istore (lv' := [(7, .int ((n + 1) - 1)), (5, .int (n + 1)), (6, .int i), (4, .int f), (0, .ref (ad o)), (1, .int st), (2, .int g), (3, .int sl)]) hx hb dX7_inSlot_75 hl (by decide) rfl (fun ls hl => ?_)
              refine lv_iload hx hb dX7_inSlot_77 (lv_at hl 0 rfl) ?_
              refine lv_iload_n hx hb dX7_inSlot_79 rfl (lv_at hl 7 rfl) ?_
              refine lv_icmp_ne (tgt := 97) hx hb dX7_inSlot_80 (by decide) (fun h80_12 => ?_) (fun h80_12 => ?_)
              · refine lv_iload hx hb dX7_inSlot_97 (lv_at hl 3 rfl) ?_
                refine lv_istore (lv' := [(4, .int f), (7, .int ((n + 1) - 1)), (5, .int (n + 1)), (6, .int i), (0, .ref (ad o)), (1, .int st), (2, .int g), (3, .int sl)]) hx hb dX7_inSlot_99 hl (by decide) rfl (fun ls hl => ?_)
                refine lv_iinc (v := i + 1) (lv' := [(6, .int (i + 1)), (4, .int f), (7, .int ((n + 1) - 1)), (5, .int (n + 1)), (0, .ref (ad o)), (1, .int st), (2, .int g), (3, .int sl)]) hx hb dX7_inSlot_101 hl (k := 3) rfl rfl (by decide) rfl (fun ls hl => ?_)
                refine lv_goto (tgt := 13) hx hb dX7_inSlot_104 (by decide) ?_
                exact ih f (n + 1) (i + 1) (ms_up h27_1 hm) (by rw [← hR1]; simp only [mSlL, h27_1, h32_2, eq_true h43_8, h55_9, h80_12, ↓reduceIte]) (slI_up hq h27_1) ls (lv_sub hl [0, 3, 1, 4, 5, 6, 7] rfl)
              · refine lv_iload hx hb dX7_inSlot_83 (lv_at hl 0 rfl) ?_
                refine lv_aload_n hx hb dX7_inSlot_85 rfl (lv_at hl 4 rfl) ?_
                refine va_get (D := G.1) (ci := 7) (v := .int r.2.1) (C := RX7) (T := TX7) (N := 13) hx hb hts hiX7 hown hY.1 hP 0 rfl rfl 1 (by decide) kf7 (fun _ h9 => h9) rfl dX7_inSlot_86 ?_
                refine lv_icmp_ge (tgt := 97) hx hb dX7_inSlot_89 (by decide) (fun h89_13 => ?_) (fun h89_13 => ?_)
                · refine lv_iload hx hb dX7_inSlot_97 (lv_at hl 3 rfl) ?_
                  refine lv_istore (lv' := [(4, .int f), (7, .int ((n + 1) - 1)), (5, .int (n + 1)), (6, .int i), (0, .ref (ad o)), (1, .int st), (2, .int g), (3, .int sl)]) hx hb dX7_inSlot_99 hl (by decide) rfl (fun ls hl => ?_)
                  refine lv_iinc (v := i + 1) (lv' := [(6, .int (i + 1)), (4, .int f), (7, .int ((n + 1) - 1)), (5, .int (n + 1)), (0, .ref (ad o)), (1, .int st), (2, .int g), (3, .int sl)]) hx hb dX7_inSlot_101 hl (k := 3) rfl rfl (by decide) rfl (fun ls hl => ?_)
                  refine lv_goto (tgt := 13) hx hb dX7_inSlot_104 (by decide) ?_
                  exact ih f (n + 1) (i + 1) (ms_up h27_1 hm) (by rw [← hR1]; simp only [mSlL, h27_1, h32_2, eq_true h43_8, h55_9, eq_true h80_12, h89_13, ↓reduceIte]) (slI_up hq h27_1) ls (lv_sub hl [0, 3, 1, 4, 5, 6, 7] rfl)
                · refine lv_iload hx hb dX7_inSlot_92 (lv_at hl 2 rfl) ?_
                  refine lv_goto (tgt := 99) hx hb dX7_inSlot_94 (by decide) ?_
                  refine lv_istore (lv' := [(4, .int i), (7, .int ((n + 1) - 1)), (5, .int (n + 1)), (6, .int i), (0, .ref (ad o)), (1, .int st), (2, .int g), (3, .int sl)]) hx hb dX7_inSlot_99 hl (by decide) rfl (fun ls hl => ?_)
                  refine lv_iinc (v := i + 1) (lv' := [(6, .int (i + 1)), (4, .int i), (7, .int ((n + 1) - 1)), (5, .int (n + 1)), (0, .ref (ad o)), (1, .int st), (2, .int g), (3, .int sl)]) hx hb dX7_inSlot_101 hl (k := 3) rfl rfl (by decide) rfl (fun ls hl => ?_)
                  refine lv_goto (tgt := 13) hx hb dX7_inSlot_104 (by decide) ?_
                  exact ih i (n + 1) (i + 1) (ms_up h27_1 hm) (by rw [← hR1]; simp only [mSlL, h27_1, h32_2, eq_true h43_8, h55_9, eq_true h80_12, h89_13, ↓reduceIte]) (slI_up hq h27_1) ls (lv_sub hl [0, 3, 1, 4, 5, 6, 7] rfl)
  exact loop1 _ (-1) 0 (300 * st) (Nat.lt_succ_self _) rfl (slI0 hB.1) ls (lv_sub hl [0, 1, 2, 3, 4, 5, 6] rfl)

set_option maxHeartbeats 4000000 in
set_option maxRecDepth 100000 in
theorem k_X7_slotOf (l : Launch) (G : GT) (ad : Nat → Nat) (o : Nat) (r : MoT) (st g sl : Int32) (h0 : okA st 0 1) (h1 : okA g (-1) 3) (hB : okB r.2.2.2.1 st) (hf : ¬ (mSl r.2.2.2.1 r.2.1 r.2.2.2.2.2.2.1 r.2.2.2.2.2.2.2.1 st g sl) = (-1)) : Wr l yX7_slotOf wsX7_slotOf { frames := 1, cells := 0, slots := 0, locals := 27 } G (wMo G ad o r) (wMo G ad o (0, r.2)) [.ref (ad o), .int st, .int g, .int sl] (some (.int (mSl r.2.2.2.1 r.2.1 r.2.2.2.2.2.2.1 r.2.2.2.2.2.2.2.1 st g sl))) := by
  intro sz
  refine Met.ofW (cc := cX7_slotOf) (maxL := 6) (ret := (some .int)) (by decide) rfl ?_
  intro p e s m args below meth c s₁ B hml hv
  obtain ⟨rfl, hsz, hP, hY, hD0⟩ := hv
  subst hsz
  have hD := hD0.self (sz := s.heap.size)
  generalize hAe : va_A (wMo G ad o r) s.heap.size = A at hD ⊢
  have hA : ∀ q : Nat, s.heap.size ≤ q → A q := fun q h => by rw [← hAe]; exact Or.inr h
  have hS : va_S A s.heap s.heap [] := va_S.rf
  have hx := B.exec
  have hb := B.bytes
  have hr := B.returns
  have hts := atoms_spec (ws := wsX7_slotOf) B.pre
  have hown : s.vm.findClass RX7 = some m.cls := findClass_of_methodNamed B.named
  have hlk := B.notSynchronized
  have CF : CallFix p m c cX7_slotOf 6 s _ wsX7_slotOf RX7 := ⟨hx, hb, hml, hown, hts⟩
  have hl := lv_entry ([.ref (ad o), .int st, .int g, .int sl]) (n := 6) (Nat.le_of_ble_eq_true rfl)
  rw [lg_entry_eq]
  generalize (lg_sl ([.ref (ad o), .int st, .int g, .int sl]) ++ List.replicate (6 - (lg_sl ([.ref (ad o), .int st, .int g, .int sl])).length) Slot.unset).toArray = ls at hl ⊢
  have hl : lv_has ls 6 [(0, .ref (ad o)), (1, .int st), (2, .int g), (3, .int sl)] := hl
  refine lv_iload_n hx hb dX7_slotOf_0 rfl (lv_at hl 1 rfl) ?_
  refine lv_iconst (v := 0) hx hb dX7_slotOf_1 (by decide) ?_
  refine lv_iconst (v := 1) hx hb dX7_slotOf_2 (by decide) ?_
  refine rdS (w0 := ([] : va_W)) (As := [.int st, .int 0, .int 1]) (rest := []) CF (k_X7_in l G st 0 1 h0) (va_cwS 3 hts gX7_slotOf_X7_in rfl rfl rfl (by decide +kernel) ⟨Nat.le_of_ble_eq_true rfl, Nat.le_of_ble_eq_true rfl⟩) va_P_nil hY rfl hl.1 rfl (lv_room (Nat.le_of_ble_eq_true rfl)) dX7_slotOf_3 ⟨Nat.zero_le _, Nat.zero_le _⟩ ?_
  refine lv_if_eq (tgt := 22) hx hb dX7_slotOf_6 (by decide) (fun h6_1 => ?_) (fun h6_1 => ?_)
  · exact absurd h6_1 (by decide)
  · refine lv_iload_n hx hb dX7_slotOf_9 rfl (lv_at hl 2 rfl) ?_
    refine lv_iconst (v := -1) hx hb dX7_slotOf_10 (by decide) ?_
    refine lv_iconst (v := 3) hx hb dX7_slotOf_11 (by decide) ?_
    refine rdS (w0 := ([] : va_W)) (As := [.int g, .int (-1), .int 3]) (rest := []) CF (k_X7_in l G g (-1) 3 h1) (va_cwS 3 hts gX7_slotOf_X7_in rfl rfl rfl (by decide +kernel) ⟨Nat.le_of_ble_eq_true rfl, Nat.le_of_ble_eq_true rfl⟩) va_P_nil hY rfl hl.1 rfl (lv_room (Nat.le_of_ble_eq_true rfl)) dX7_slotOf_12 ⟨Nat.zero_le _, Nat.zero_le _⟩ ?_
    refine lv_if_eq (tgt := 22) hx hb dX7_slotOf_15 (by decide) (fun h15_2 => ?_) (fun h15_2 => ?_)
    · exact absurd h15_2 (by decide)
    · refine lv_iconst (v := 1) hx hb dX7_slotOf_18 (by decide) ?_
      refine lv_goto (tgt := 23) hx hb dX7_slotOf_19 (by decide) ?_
      refine lv_istore (lv' := [(4, .int 1), (0, .ref (ad o)), (1, .int st), (2, .int g), (3, .int sl)]) hx hb dX7_slotOf_23 hl (by decide) rfl (fun ls hl => ?_)
      refine lv_iload hx hb dX7_slotOf_25 (lv_at hl 0 rfl) ?_
      refine lv_if_eq (tgt := 40) hx hb dX7_slotOf_27 (by decide) (fun h27_3 => ?_) (fun h27_3 => ?_)
      · exact absurd h27_3 (by decide)
      · refine lv_aload_n hx hb dX7_slotOf_30 rfl (lv_at hl 1 rfl) ?_
        refine lv_iload_n hx hb dX7_slotOf_31 rfl (lv_at hl 2 rfl) ?_
        refine lv_iload_n hx hb dX7_slotOf_32 rfl (lv_at hl 3 rfl) ?_
        refine lv_iload_n hx hb dX7_slotOf_33 rfl (lv_at hl 4 rfl) ?_
        refine rdV (w0 := (wMo G ad o r)) (As := [.int st, .int g, .int sl]) (rest := []) CF (k_X7_inSlot l G ad o r st g sl h0 hB) (cwV 3 hts gX7_slotOf_X7_inSlot rfl rfl rfl (by decide +kernel) ⟨Nat.le_of_ble_eq_true rfl, Nat.le_of_ble_eq_true rfl⟩) hP hY rfl rfl rfl hl.1 rfl (lv_room (Nat.le_of_ble_eq_true rfl)) dX7_slotOf_34 ⟨Nat.zero_le _, Nat.zero_le _⟩ ?_
        refine lv_goto (tgt := 41) hx hb dX7_slotOf_37 (by decide) ?_
        refine lv_istore (lv' := [(5, .int (mSl r.2.2.2.1 r.2.1 r.2.2.2.2.2.2.1 r.2.2.2.2.2.2.2.1 st g sl)), (4, .int 1), (0, .ref (ad o)), (1, .int st), (2, .int g), (3, .int sl)]) hx hb dX7_slotOf_41 hl (by decide) rfl (fun ls hl => ?_)
        refine lv_aload_n hx hb dX7_slotOf_43 rfl (lv_at hl 2 rfl) ?_
        refine lv_iload hx hb dX7_slotOf_44 (lv_at hl 1 rfl) ?_
        refine lv_if_ne (tgt := 53) hx hb dX7_slotOf_46 (by decide) (fun h46_4 => ?_) (fun h46_4 => ?_)
        · refine lv_iload hx hb dX7_slotOf_53 (lv_at hl 0 rfl) ?_
          refine lv_iconst (v := -1) hx hb dX7_slotOf_55 (by decide) ?_
          refine lv_icmp_ne (tgt := 63) hx hb dX7_slotOf_56 (by decide) (fun h56_5 => ?_) (fun h56_5 => ?_)
          · refine lv_iconst (v := 0) hx hb dX7_slotOf_63 (by decide) ?_
            refine wrV [] (wMo G ad o r) [] (wMo G ad o (0, r.2)) (As := [.int 0]) (rest := []) CF (k0_X7_refused l G ad o r 0 rfl) (cwV 1 hts gX7_slotOf_X7_refused rfl rfl rfl (by decide +kernel) ⟨Nat.le_of_ble_eq_true rfl, Nat.le_of_ble_eq_true rfl⟩) hP hD hS hA hY rfl rfl (fst_Mo _ _ _ _ _) rfl hl.1 rfl (lv_room (Nat.le_of_ble_eq_true rfl)) dX7_slotOf_64 ⟨Nat.zero_le _, Nat.zero_le _⟩ (fun H locs hP hD hS => ?_)
            have hP : va_P G.1 vwCl (wMo G ad o (0, r.2.1, r.2.2.1, r.2.2.2.1, r.2.2.2.2.1, r.2.2.2.2.2.1, r.2.2.2.2.2.2.1, r.2.2.2.2.2.2.2.1, r.2.2.2.2.2.2.2.2.1, r.2.2.2.2.2.2.2.2.2.1, r.2.2.2.2.2.2.2.2.2.2.1, r.2.2.2.2.2.2.2.2.2.2.2.1, r.2.2.2.2.2.2.2.2.2.2.2.2)) H := hP
            have hD : va_D A (wMo G ad o (0, r.2.1, r.2.2.1, r.2.2.2.1, r.2.2.2.2.1, r.2.2.2.2.2.1, r.2.2.2.2.2.2.1, r.2.2.2.2.2.2.2.1, r.2.2.2.2.2.2.2.2.1, r.2.2.2.2.2.2.2.2.2.1, r.2.2.2.2.2.2.2.2.2.2.1, r.2.2.2.2.2.2.2.2.2.2.2.1, r.2.2.2.2.2.2.2.2.2.2.2.2)) := hD
            refine lv_if_eq (tgt := 74) hx hb dX7_slotOf_67 (by decide) (fun h67_6 => ?_) (fun h67_6 => ?_)
            · refine lv_iload hx hb dX7_slotOf_74 (lv_at hl 0 rfl) ?_
              exact wr_iret hx hb hr hlk hS hP (by first | with_reducible rfl | (simp only [sld_eq, h6_1, h15_2, h27_3, h46_4, h56_5, eq_true h67_6, ↓reduceIte]; done)) (by first | with_reducible rfl | (simp only [sld_eq, h6_1, h15_2, h27_3, h46_4, h56_5, eq_true h67_6, ↓reduceIte]; done)) dX7_slotOf_76
            · exact absurd rfl h67_6
          · exact absurd h56_5 hf
        · exact absurd h46_4 (by decide)

set_option maxHeartbeats 4000000 in
set_option maxRecDepth 100000 in
theorem km_X7_slotOf (l : Launch) (G : GT) (ad : Nat → Nat) (o : Nat) (r : MoT) (st g sl : Int32) (h0 : okA st 0 1) (h1 : okA g (-1) 3) (hB : okB r.2.2.2.1 st) (hf : (mSl r.2.2.2.1 r.2.1 r.2.2.2.2.2.2.1 r.2.2.2.2.2.2.2.1 st g sl) = (-1)) : Wr l yX7_slotOf wsX7_slotOf { frames := 1, cells := 0, slots := 0, locals := 27 } G (wMo G ad o r) (wMo G ad o (2, r.2)) [.ref (ad o), .int st, .int g, .int sl] (some (.int (-1))) := by
  intro sz
  refine Met.ofW (cc := cX7_slotOf) (maxL := 6) (ret := (some .int)) (by decide) rfl ?_
  intro p e s m args below meth c s₁ B hml hv
  obtain ⟨rfl, hsz, hP, hY, hD0⟩ := hv
  subst hsz
  have hD := hD0.self (sz := s.heap.size)
  generalize hAe : va_A (wMo G ad o r) s.heap.size = A at hD ⊢
  have hA : ∀ q : Nat, s.heap.size ≤ q → A q := fun q h => by rw [← hAe]; exact Or.inr h
  have hS : va_S A s.heap s.heap [] := va_S.rf
  have hx := B.exec
  have hb := B.bytes
  have hr := B.returns
  have hts := atoms_spec (ws := wsX7_slotOf) B.pre
  have hown : s.vm.findClass RX7 = some m.cls := findClass_of_methodNamed B.named
  have hlk := B.notSynchronized
  have CF : CallFix p m c cX7_slotOf 6 s _ wsX7_slotOf RX7 := ⟨hx, hb, hml, hown, hts⟩
  have hl := lv_entry ([.ref (ad o), .int st, .int g, .int sl]) (n := 6) (Nat.le_of_ble_eq_true rfl)
  rw [lg_entry_eq]
  generalize (lg_sl ([.ref (ad o), .int st, .int g, .int sl]) ++ List.replicate (6 - (lg_sl ([.ref (ad o), .int st, .int g, .int sl])).length) Slot.unset).toArray = ls at hl ⊢
  have hl : lv_has ls 6 [(0, .ref (ad o)), (1, .int st), (2, .int g), (3, .int sl)] := hl
  refine lv_iload_n hx hb dX7_slotOf_0 rfl (lv_at hl 1 rfl) ?_
  refine lv_iconst (v := 0) hx hb dX7_slotOf_1 (by decide) ?_
  refine lv_iconst (v := 1) hx hb dX7_slotOf_2 (by decide) ?_
  refine rdS (w0 := ([] : va_W)) (As := [.int st, .int 0, .int 1]) (rest := []) CF (k_X7_in l G st 0 1 h0) (va_cwS 3 hts gX7_slotOf_X7_in rfl rfl rfl (by decide +kernel) ⟨Nat.le_of_ble_eq_true rfl, Nat.le_of_ble_eq_true rfl⟩) va_P_nil hY rfl hl.1 rfl (lv_room (Nat.le_of_ble_eq_true rfl)) dX7_slotOf_3 ⟨Nat.zero_le _, Nat.zero_le _⟩ ?_
  refine lv_if_eq (tgt := 22) hx hb dX7_slotOf_6 (by decide) (fun h6_1 => ?_) (fun h6_1 => ?_)
  · exact absurd h6_1 (by decide)
  · refine lv_iload_n hx hb dX7_slotOf_9 rfl (lv_at hl 2 rfl) ?_
    refine lv_iconst (v := -1) hx hb dX7_slotOf_10 (by decide) ?_
    refine lv_iconst (v := 3) hx hb dX7_slotOf_11 (by decide) ?_
    refine rdS (w0 := ([] : va_W)) (As := [.int g, .int (-1), .int 3]) (rest := []) CF (k_X7_in l G g (-1) 3 h1) (va_cwS 3 hts gX7_slotOf_X7_in rfl rfl rfl (by decide +kernel) ⟨Nat.le_of_ble_eq_true rfl, Nat.le_of_ble_eq_true rfl⟩) va_P_nil hY rfl hl.1 rfl (lv_room (Nat.le_of_ble_eq_true rfl)) dX7_slotOf_12 ⟨Nat.zero_le _, Nat.zero_le _⟩ ?_
    refine lv_if_eq (tgt := 22) hx hb dX7_slotOf_15 (by decide) (fun h15_2 => ?_) (fun h15_2 => ?_)
    · exact absurd h15_2 (by decide)
    · refine lv_iconst (v := 1) hx hb dX7_slotOf_18 (by decide) ?_
      refine lv_goto (tgt := 23) hx hb dX7_slotOf_19 (by decide) ?_
      refine lv_istore (lv' := [(4, .int 1), (0, .ref (ad o)), (1, .int st), (2, .int g), (3, .int sl)]) hx hb dX7_slotOf_23 hl (by decide) rfl (fun ls hl => ?_)
      refine lv_iload hx hb dX7_slotOf_25 (lv_at hl 0 rfl) ?_
      refine lv_if_eq (tgt := 40) hx hb dX7_slotOf_27 (by decide) (fun h27_3 => ?_) (fun h27_3 => ?_)
      · exact absurd h27_3 (by decide)
      · refine lv_aload_n hx hb dX7_slotOf_30 rfl (lv_at hl 1 rfl) ?_
        refine lv_iload_n hx hb dX7_slotOf_31 rfl (lv_at hl 2 rfl) ?_
        refine lv_iload_n hx hb dX7_slotOf_32 rfl (lv_at hl 3 rfl) ?_
        refine lv_iload_n hx hb dX7_slotOf_33 rfl (lv_at hl 4 rfl) ?_
        refine rdV (w0 := (wMo G ad o r)) (As := [.int st, .int g, .int sl]) (rest := []) CF (k_X7_inSlot l G ad o r st g sl h0 hB) (cwV 3 hts gX7_slotOf_X7_inSlot rfl rfl rfl (by decide +kernel) ⟨Nat.le_of_ble_eq_true rfl, Nat.le_of_ble_eq_true rfl⟩) hP hY rfl rfl rfl hl.1 rfl (lv_room (Nat.le_of_ble_eq_true rfl)) dX7_slotOf_34 ⟨Nat.zero_le _, Nat.zero_le _⟩ ?_
        refine lv_goto (tgt := 41) hx hb dX7_slotOf_37 (by decide) ?_
        refine lv_istore (lv' := [(5, .int (mSl r.2.2.2.1 r.2.1 r.2.2.2.2.2.2.1 r.2.2.2.2.2.2.2.1 st g sl)), (4, .int 1), (0, .ref (ad o)), (1, .int st), (2, .int g), (3, .int sl)]) hx hb dX7_slotOf_41 hl (by decide) rfl (fun ls hl => ?_)
        refine lv_aload_n hx hb dX7_slotOf_43 rfl (lv_at hl 2 rfl) ?_
        refine lv_iload hx hb dX7_slotOf_44 (lv_at hl 1 rfl) ?_
        refine lv_if_ne (tgt := 53) hx hb dX7_slotOf_46 (by decide) (fun h46_4 => ?_) (fun h46_4 => ?_)
        · refine lv_iload hx hb dX7_slotOf_53 (lv_at hl 0 rfl) ?_
          refine lv_iconst (v := -1) hx hb dX7_slotOf_55 (by decide) ?_
          refine lv_icmp_ne (tgt := 63) hx hb dX7_slotOf_56 (by decide) (fun h56_5 => ?_) (fun h56_5 => ?_)
          · exact absurd hf h56_5
          · refine lv_iconst (v := 2) hx hb dX7_slotOf_59 (by decide) ?_
            refine lv_goto (tgt := 64) hx hb dX7_slotOf_60 (by decide) ?_
            refine wrV [] (wMo G ad o r) [] (wMo G ad o (2, r.2)) (As := [.int 2]) (rest := []) CF (k1_X7_refused l G ad o r 2 (by decide)) (cwV 1 hts gX7_slotOf_X7_refused rfl rfl rfl (by decide +kernel) ⟨Nat.le_of_ble_eq_true rfl, Nat.le_of_ble_eq_true rfl⟩) hP hD hS hA hY rfl rfl (fst_Mo _ _ _ _ _) rfl hl.1 rfl (lv_room (Nat.le_of_ble_eq_true rfl)) dX7_slotOf_64 ⟨Nat.zero_le _, Nat.zero_le _⟩ (fun H locs hP hD hS => ?_)
            have hP : va_P G.1 vwCl (wMo G ad o (2, r.2.1, r.2.2.1, r.2.2.2.1, r.2.2.2.2.1, r.2.2.2.2.2.1, r.2.2.2.2.2.2.1, r.2.2.2.2.2.2.2.1, r.2.2.2.2.2.2.2.2.1, r.2.2.2.2.2.2.2.2.2.1, r.2.2.2.2.2.2.2.2.2.2.1, r.2.2.2.2.2.2.2.2.2.2.2.1, r.2.2.2.2.2.2.2.2.2.2.2.2)) H := hP
            have hD : va_D A (wMo G ad o (2, r.2.1, r.2.2.1, r.2.2.2.1, r.2.2.2.2.1, r.2.2.2.2.2.1, r.2.2.2.2.2.2.1, r.2.2.2.2.2.2.2.1, r.2.2.2.2.2.2.2.2.1, r.2.2.2.2.2.2.2.2.2.1, r.2.2.2.2.2.2.2.2.2.2.1, r.2.2.2.2.2.2.2.2.2.2.2.1, r.2.2.2.2.2.2.2.2.2.2.2.2)) := hD
            refine lv_if_eq (tgt := 74) hx hb dX7_slotOf_67 (by decide) (fun h67_6 => ?_) (fun h67_6 => ?_)
            · exact absurd h67_6 (by decide)
            · refine lv_iconst (v := -1) hx hb dX7_slotOf_70 (by decide) ?_
              refine lv_goto (tgt := 76) hx hb dX7_slotOf_71 (by decide) ?_
              exact wr_iret hx hb hr hlk hS hP (by first | with_reducible rfl | (simp only [sld_eq, h6_1, h15_2, h27_3, h46_4, eq_true h56_5, h67_6, ↓reduceIte]; done)) (by first | with_reducible rfl | (simp only [sld_eq, h6_1, h15_2, h27_3, h46_4, eq_true h56_5, h67_6, ↓reduceIte]; done)) dX7_slotOf_76
        · exact absurd h46_4 (by decide)

set_option maxHeartbeats 4000000 in
set_option maxRecDepth 100000 in
theorem kn_X7_slotOf (l : Launch) (G : GT) (ad : Nat → Nat) (o : Nat) (r : MoT) (st g sl : Int32) (hk : ¬ okA st 0 1) : Wr l yX7_slotOf wsX7_slotOf { frames := 1, cells := 0, slots := 0, locals := 27 } G (wMo G ad o r) (wMo G ad o (1, r.2)) [.ref (ad o), .int st, .int g, .int sl] (some (.int (-1))) := by
  intro sz
  refine Met.ofW (cc := cX7_slotOf) (maxL := 6) (ret := (some .int)) (by decide) rfl ?_
  intro p e s m args below meth c s₁ B hml hv
  obtain ⟨rfl, hsz, hP, hY, hD0⟩ := hv
  subst hsz
  have hD := hD0.self (sz := s.heap.size)
  generalize hAe : va_A (wMo G ad o r) s.heap.size = A at hD ⊢
  have hA : ∀ q : Nat, s.heap.size ≤ q → A q := fun q h => by rw [← hAe]; exact Or.inr h
  have hS : va_S A s.heap s.heap [] := va_S.rf
  have hx := B.exec
  have hb := B.bytes
  have hr := B.returns
  have hts := atoms_spec (ws := wsX7_slotOf) B.pre
  have hown : s.vm.findClass RX7 = some m.cls := findClass_of_methodNamed B.named
  have hlk := B.notSynchronized
  have CF : CallFix p m c cX7_slotOf 6 s _ wsX7_slotOf RX7 := ⟨hx, hb, hml, hown, hts⟩
  have hl := lv_entry ([.ref (ad o), .int st, .int g, .int sl]) (n := 6) (Nat.le_of_ble_eq_true rfl)
  rw [lg_entry_eq]
  generalize (lg_sl ([.ref (ad o), .int st, .int g, .int sl]) ++ List.replicate (6 - (lg_sl ([.ref (ad o), .int st, .int g, .int sl])).length) Slot.unset).toArray = ls at hl ⊢
  have hl : lv_has ls 6 [(0, .ref (ad o)), (1, .int st), (2, .int g), (3, .int sl)] := hl
  refine lv_iload_n hx hb dX7_slotOf_0 rfl (lv_at hl 1 rfl) ?_
  refine lv_iconst (v := 0) hx hb dX7_slotOf_1 (by decide) ?_
  refine lv_iconst (v := 1) hx hb dX7_slotOf_2 (by decide) ?_
  refine rdS (w0 := ([] : va_W)) (As := [.int st, .int 0, .int 1]) (rest := []) CF (kn_X7_in l G st 0 1 hk) (va_cwS 3 hts gX7_slotOf_X7_in rfl rfl rfl (by decide +kernel) ⟨Nat.le_of_ble_eq_true rfl, Nat.le_of_ble_eq_true rfl⟩) va_P_nil hY rfl hl.1 rfl (lv_room (Nat.le_of_ble_eq_true rfl)) dX7_slotOf_3 ⟨Nat.zero_le _, Nat.zero_le _⟩ ?_
  refine lv_if_eq (tgt := 22) hx hb dX7_slotOf_6 (by decide) (fun h6_1 => ?_) (fun h6_1 => ?_)
  · refine lv_iconst (v := 0) hx hb dX7_slotOf_22 (by decide) ?_
    refine lv_istore (lv' := [(4, .int 0), (0, .ref (ad o)), (1, .int st), (2, .int g), (3, .int sl)]) hx hb dX7_slotOf_23 hl (by decide) rfl (fun ls hl => ?_)
    refine lv_iload hx hb dX7_slotOf_25 (lv_at hl 0 rfl) ?_
    refine lv_if_eq (tgt := 40) hx hb dX7_slotOf_27 (by decide) (fun h27_2 => ?_) (fun h27_2 => ?_)
    · refine lv_iconst (v := -1) hx hb dX7_slotOf_40 (by decide) ?_
      refine lv_istore (lv' := [(5, .int (-1)), (4, .int 0), (0, .ref (ad o)), (1, .int st), (2, .int g), (3, .int sl)]) hx hb dX7_slotOf_41 hl (by decide) rfl (fun ls hl => ?_)
      refine lv_aload_n hx hb dX7_slotOf_43 rfl (lv_at hl 2 rfl) ?_
      refine lv_iload hx hb dX7_slotOf_44 (lv_at hl 1 rfl) ?_
      refine lv_if_ne (tgt := 53) hx hb dX7_slotOf_46 (by decide) (fun h46_3 => ?_) (fun h46_3 => ?_)
      · exact absurd rfl h46_3
      · refine lv_iconst (v := 1) hx hb dX7_slotOf_49 (by decide) ?_
        refine lv_goto (tgt := 64) hx hb dX7_slotOf_50 (by decide) ?_
        refine wrV [] (wMo G ad o r) [] (wMo G ad o (1, r.2)) (As := [.int 1]) (rest := []) CF (k1_X7_refused l G ad o r 1 (by decide)) (cwV 1 hts gX7_slotOf_X7_refused rfl rfl rfl (by decide +kernel) ⟨Nat.le_of_ble_eq_true rfl, Nat.le_of_ble_eq_true rfl⟩) hP hD hS hA hY rfl rfl (fst_Mo _ _ _ _ _) rfl hl.1 rfl (lv_room (Nat.le_of_ble_eq_true rfl)) dX7_slotOf_64 ⟨Nat.zero_le _, Nat.zero_le _⟩ (fun H locs hP hD hS => ?_)
        have hP : va_P G.1 vwCl (wMo G ad o (1, r.2.1, r.2.2.1, r.2.2.2.1, r.2.2.2.2.1, r.2.2.2.2.2.1, r.2.2.2.2.2.2.1, r.2.2.2.2.2.2.2.1, r.2.2.2.2.2.2.2.2.1, r.2.2.2.2.2.2.2.2.2.1, r.2.2.2.2.2.2.2.2.2.2.1, r.2.2.2.2.2.2.2.2.2.2.2.1, r.2.2.2.2.2.2.2.2.2.2.2.2)) H := hP
        have hD : va_D A (wMo G ad o (1, r.2.1, r.2.2.1, r.2.2.2.1, r.2.2.2.2.1, r.2.2.2.2.2.1, r.2.2.2.2.2.2.1, r.2.2.2.2.2.2.2.1, r.2.2.2.2.2.2.2.2.1, r.2.2.2.2.2.2.2.2.2.1, r.2.2.2.2.2.2.2.2.2.2.1, r.2.2.2.2.2.2.2.2.2.2.2.1, r.2.2.2.2.2.2.2.2.2.2.2.2)) := hD
        refine lv_if_eq (tgt := 74) hx hb dX7_slotOf_67 (by decide) (fun h67_4 => ?_) (fun h67_4 => ?_)
        · exact absurd h67_4 (by decide)
        · refine lv_iconst (v := -1) hx hb dX7_slotOf_70 (by decide) ?_
          refine lv_goto (tgt := 76) hx hb dX7_slotOf_71 (by decide) ?_
          exact wr_iret hx hb hr hlk hS hP (by first | with_reducible rfl | (simp only [sld_eq, eq_true h6_1, eq_true h27_2, eq_true h46_3, h67_4, ↓reduceIte]; done)) (by first | with_reducible rfl | (simp only [sld_eq, eq_true h6_1, eq_true h27_2, eq_true h46_3, h67_4, ↓reduceIte]; done)) dX7_slotOf_76
    · exact absurd rfl h27_2
  · exact absurd rfl h6_1

set_option maxHeartbeats 4000000 in
set_option maxRecDepth 100000 in
theorem k_X7_reservoirItem (l : Launch) (G : GT) (ad : Nat → Nat) (o : Nat) (r : MoT) (st sl : Int32) (h0 : okA st 0 1) (hB : okB r.2.2.2.1 st) (hf : ¬ (mSl r.2.2.2.1 r.2.1 r.2.2.2.2.2.2.1 r.2.2.2.2.2.2.2.1 st (-1) sl) = (-1)) (hv : vp_in (mSl r.2.2.2.1 r.2.1 r.2.2.2.2.2.2.1 r.2.2.2.2.2.2.2.1 st (-1) sl) 600) : Wr l yX7_reservoirItem wsX7_reservoirItem { frames := 2, cells := 0, slots := 0, locals := 52 } G (wMo G ad o r) (wMo G ad o (0, r.2)) [.ref (ad o), .int st, .int sl] (some (.int (r.2.2.2.2.1 (mSl r.2.2.2.1 r.2.1 r.2.2.2.2.2.2.1 r.2.2.2.2.2.2.2.1 st (-1) sl).toNatClampNeg))) := by
  intro sz
  refine Met.ofW (cc := cX7_reservoirItem) (maxL := 4) (ret := (some .int)) (by decide) rfl ?_
  intro p e s m args below meth c s₁ B hml hv
  obtain ⟨rfl, hsz, hP, hY, hD0⟩ := hv
  subst hsz
  have hD := hD0.self (sz := s.heap.size)
  generalize hAe : va_A (wMo G ad o r) s.heap.size = A at hD ⊢
  have hA : ∀ q : Nat, s.heap.size ≤ q → A q := fun q h => by rw [← hAe]; exact Or.inr h
  have hS : va_S A s.heap s.heap [] := va_S.rf
  have hx := B.exec
  have hb := B.bytes
  have hr := B.returns
  have hts := atoms_spec (ws := wsX7_reservoirItem) B.pre
  have hown : s.vm.findClass RX7 = some m.cls := findClass_of_methodNamed B.named
  have hlk := B.notSynchronized
  have CF : CallFix p m c cX7_reservoirItem 4 s _ wsX7_reservoirItem RX7 := ⟨hx, hb, hml, hown, hts⟩
  have hiX7 : ∀ w ∈ wsX70, w ∈ wsX7_reservoirItem := fun w h => (List.mem_cons_of_mem _ (List.mem_append_right _ h))
  have kf20 := hts (.fieldLink RX7 20 "ReservoirReedModel" "items" "[I") (List.mem_cons_of_mem _ (List.mem_append_left _ (List.mem_of_getElem? (i := 0) rfl)))
  have hl := lv_entry ([.ref (ad o), .int st, .int sl]) (n := 4) (Nat.le_of_ble_eq_true rfl)
  rw [lg_entry_eq]
  generalize (lg_sl ([.ref (ad o), .int st, .int sl]) ++ List.replicate (4 - (lg_sl ([.ref (ad o), .int st, .int sl])).length) Slot.unset).toArray = ls at hl ⊢
  have hl : lv_has ls 4 [(0, .ref (ad o)), (1, .int st), (2, .int sl)] := hl
  refine lv_aload_n hx hb dX7_reservoirItem_0 rfl (lv_at hl 0 rfl) ?_
  refine lv_iload_n hx hb dX7_reservoirItem_1 rfl (lv_at hl 1 rfl) ?_
  refine lv_iconst (v := -1) hx hb dX7_reservoirItem_2 (by decide) ?_
  refine lv_iload_n hx hb dX7_reservoirItem_3 rfl (lv_at hl 2 rfl) ?_
  refine wrV [] (wMo G ad o r) [] (wMo G ad o (0, r.2)) (As := [.int st, .int (-1), .int sl]) (rest := []) CF (k_X7_slotOf l G ad o r st (-1) sl h0 (by decide) hB hf) (cwV 3 hts gX7_reservoirItem_X7_slotOf rfl rfl rfl (by decide +kernel) ⟨Nat.le_of_ble_eq_true rfl, Nat.le_of_ble_eq_true rfl⟩) hP hD hS hA hY rfl rfl (fst_Mo _ _ _ _ _) rfl hl.1 rfl (lv_room (Nat.le_of_ble_eq_true rfl)) dX7_reservoirItem_4 ⟨Nat.zero_le _, Nat.zero_le _⟩ (fun H locs hP hD hS => ?_)
  have hP : va_P G.1 vwCl (wMo G ad o (0, r.2.1, r.2.2.1, r.2.2.2.1, r.2.2.2.2.1, r.2.2.2.2.2.1, r.2.2.2.2.2.2.1, r.2.2.2.2.2.2.2.1, r.2.2.2.2.2.2.2.2.1, r.2.2.2.2.2.2.2.2.2.1, r.2.2.2.2.2.2.2.2.2.2.1, r.2.2.2.2.2.2.2.2.2.2.2.1, r.2.2.2.2.2.2.2.2.2.2.2.2)) H := hP
  have hD : va_D A (wMo G ad o (0, r.2.1, r.2.2.1, r.2.2.2.1, r.2.2.2.2.1, r.2.2.2.2.2.1, r.2.2.2.2.2.2.1, r.2.2.2.2.2.2.2.1, r.2.2.2.2.2.2.2.2.1, r.2.2.2.2.2.2.2.2.2.1, r.2.2.2.2.2.2.2.2.2.2.1, r.2.2.2.2.2.2.2.2.2.2.2.1, r.2.2.2.2.2.2.2.2.2.2.2.2)) := hD
  refine lv_istore_n (lv' := [(3, .int (mSl r.2.2.2.1 r.2.1 r.2.2.2.2.2.2.1 r.2.2.2.2.2.2.2.1 st (-1) sl)), (0, .ref (ad o)), (1, .int st), (2, .int sl)]) hx hb dX7_reservoirItem_7 rfl hl (by decide) rfl (fun ls hl => ?_)
  refine lv_iload_n hx hb dX7_reservoirItem_8 rfl (lv_at hl 0 rfl) ?_
  refine lv_iconst (v := -1) hx hb dX7_reservoirItem_9 (by decide) ?_
  refine lv_icmp_ne (tgt := 17) hx hb dX7_reservoirItem_10 (by decide) (fun h10_1 => ?_) (fun h10_1 => ?_)
  · refine lv_aload_n hx hb dX7_reservoirItem_17 rfl (lv_at hl 1 rfl) ?_
    refine va_get (D := G.1) (ci := 7) (v := .ref (ad (o+2))) (C := RX7) (T := TX7) (N := 13) hx hb hts hiX7 hown hY.1 hP 0 rfl rfl 4 (by decide) kf20 (fun _ h9 => h9) rfl dX7_reservoirItem_18 ?_
    refine lv_iload_n hx hb dX7_reservoirItem_21 rfl (lv_at hl 0 rfl) ?_
    refine va_iald hx hb hY.1 hP 2 0 rfl rfl hv dX7_reservoirItem_22 ?_
    exact wr_iret hx hb hr hlk hS hP (by first | with_reducible rfl | (simp only [sld_eq, h10_1, ↓reduceIte]; done)) (by first | with_reducible rfl | (simp only [sld_eq, h10_1, ↓reduceIte]; done)) dX7_reservoirItem_23
  · exact absurd h10_1 hf

set_option maxHeartbeats 4000000 in
set_option maxRecDepth 100000 in
theorem km_X7_reservoirItem (l : Launch) (G : GT) (ad : Nat → Nat) (o : Nat) (r : MoT) (st sl : Int32) (h0 : okA st 0 1) (hB : okB r.2.2.2.1 st) (hf : (mSl r.2.2.2.1 r.2.1 r.2.2.2.2.2.2.1 r.2.2.2.2.2.2.2.1 st (-1) sl) = (-1)) : Wr l yX7_reservoirItem wsX7_reservoirItem { frames := 2, cells := 0, slots := 0, locals := 52 } G (wMo G ad o r) (wMo G ad o (2, r.2)) [.ref (ad o), .int st, .int sl] (some (.int 0)) := by
  intro sz
  refine Met.ofW (cc := cX7_reservoirItem) (maxL := 4) (ret := (some .int)) (by decide) rfl ?_
  intro p e s m args below meth c s₁ B hml hv
  obtain ⟨rfl, hsz, hP, hY, hD0⟩ := hv
  subst hsz
  have hD := hD0.self (sz := s.heap.size)
  generalize hAe : va_A (wMo G ad o r) s.heap.size = A at hD ⊢
  have hA : ∀ q : Nat, s.heap.size ≤ q → A q := fun q h => by rw [← hAe]; exact Or.inr h
  have hS : va_S A s.heap s.heap [] := va_S.rf
  have hx := B.exec
  have hb := B.bytes
  have hr := B.returns
  have hts := atoms_spec (ws := wsX7_reservoirItem) B.pre
  have hown : s.vm.findClass RX7 = some m.cls := findClass_of_methodNamed B.named
  have hlk := B.notSynchronized
  have CF : CallFix p m c cX7_reservoirItem 4 s _ wsX7_reservoirItem RX7 := ⟨hx, hb, hml, hown, hts⟩
  have hl := lv_entry ([.ref (ad o), .int st, .int sl]) (n := 4) (Nat.le_of_ble_eq_true rfl)
  rw [lg_entry_eq]
  generalize (lg_sl ([.ref (ad o), .int st, .int sl]) ++ List.replicate (4 - (lg_sl ([.ref (ad o), .int st, .int sl])).length) Slot.unset).toArray = ls at hl ⊢
  have hl : lv_has ls 4 [(0, .ref (ad o)), (1, .int st), (2, .int sl)] := hl
  refine lv_aload_n hx hb dX7_reservoirItem_0 rfl (lv_at hl 0 rfl) ?_
  refine lv_iload_n hx hb dX7_reservoirItem_1 rfl (lv_at hl 1 rfl) ?_
  refine lv_iconst (v := -1) hx hb dX7_reservoirItem_2 (by decide) ?_
  refine lv_iload_n hx hb dX7_reservoirItem_3 rfl (lv_at hl 2 rfl) ?_
  refine wrV [] (wMo G ad o r) [] (wMo G ad o (2, r.2)) (As := [.int st, .int (-1), .int sl]) (rest := []) CF (km_X7_slotOf l G ad o r st (-1) sl h0 (by decide) hB hf) (cwV 3 hts gX7_reservoirItem_X7_slotOf rfl rfl rfl (by decide +kernel) ⟨Nat.le_of_ble_eq_true rfl, Nat.le_of_ble_eq_true rfl⟩) hP hD hS hA hY rfl rfl (fst_Mo _ _ _ _ _) rfl hl.1 rfl (lv_room (Nat.le_of_ble_eq_true rfl)) dX7_reservoirItem_4 ⟨Nat.zero_le _, Nat.zero_le _⟩ (fun H locs hP hD hS => ?_)
  have hP : va_P G.1 vwCl (wMo G ad o (2, r.2.1, r.2.2.1, r.2.2.2.1, r.2.2.2.2.1, r.2.2.2.2.2.1, r.2.2.2.2.2.2.1, r.2.2.2.2.2.2.2.1, r.2.2.2.2.2.2.2.2.1, r.2.2.2.2.2.2.2.2.2.1, r.2.2.2.2.2.2.2.2.2.2.1, r.2.2.2.2.2.2.2.2.2.2.2.1, r.2.2.2.2.2.2.2.2.2.2.2.2)) H := hP
  have hD : va_D A (wMo G ad o (2, r.2.1, r.2.2.1, r.2.2.2.1, r.2.2.2.2.1, r.2.2.2.2.2.1, r.2.2.2.2.2.2.1, r.2.2.2.2.2.2.2.1, r.2.2.2.2.2.2.2.2.1, r.2.2.2.2.2.2.2.2.2.1, r.2.2.2.2.2.2.2.2.2.2.1, r.2.2.2.2.2.2.2.2.2.2.2.1, r.2.2.2.2.2.2.2.2.2.2.2.2)) := hD
  refine lv_istore_n (lv' := [(3, .int (-1)), (0, .ref (ad o)), (1, .int st), (2, .int sl)]) hx hb dX7_reservoirItem_7 rfl hl (by decide) rfl (fun ls hl => ?_)
  refine lv_iload_n hx hb dX7_reservoirItem_8 rfl (lv_at hl 0 rfl) ?_
  refine lv_iconst (v := -1) hx hb dX7_reservoirItem_9 (by decide) ?_
  refine lv_icmp_ne (tgt := 17) hx hb dX7_reservoirItem_10 (by decide) (fun h10_1 => ?_) (fun h10_1 => ?_)
  · exact absurd rfl h10_1
  · refine lv_iconst (v := 0) hx hb dX7_reservoirItem_13 (by decide) ?_
    refine lv_goto (tgt := 23) hx hb dX7_reservoirItem_14 (by decide) ?_
    exact wr_iret hx hb hr hlk hS hP (by first | with_reducible rfl | (simp only [sld_eq, eq_true h10_1, ↓reduceIte]; done)) (by first | with_reducible rfl | (simp only [sld_eq, eq_true h10_1, ↓reduceIte]; done)) dX7_reservoirItem_23

set_option maxHeartbeats 4000000 in
set_option maxRecDepth 100000 in
theorem kn_X7_reservoirItem (l : Launch) (G : GT) (ad : Nat → Nat) (o : Nat) (r : MoT) (st sl : Int32) (hk : ¬ okA st 0 1) : Wr l yX7_reservoirItem wsX7_reservoirItem { frames := 2, cells := 0, slots := 0, locals := 52 } G (wMo G ad o r) (wMo G ad o (1, r.2)) [.ref (ad o), .int st, .int sl] (some (.int 0)) := by
  intro sz
  refine Met.ofW (cc := cX7_reservoirItem) (maxL := 4) (ret := (some .int)) (by decide) rfl ?_
  intro p e s m args below meth c s₁ B hml hv
  obtain ⟨rfl, hsz, hP, hY, hD0⟩ := hv
  subst hsz
  have hD := hD0.self (sz := s.heap.size)
  generalize hAe : va_A (wMo G ad o r) s.heap.size = A at hD ⊢
  have hA : ∀ q : Nat, s.heap.size ≤ q → A q := fun q h => by rw [← hAe]; exact Or.inr h
  have hS : va_S A s.heap s.heap [] := va_S.rf
  have hx := B.exec
  have hb := B.bytes
  have hr := B.returns
  have hts := atoms_spec (ws := wsX7_reservoirItem) B.pre
  have hown : s.vm.findClass RX7 = some m.cls := findClass_of_methodNamed B.named
  have hlk := B.notSynchronized
  have CF : CallFix p m c cX7_reservoirItem 4 s _ wsX7_reservoirItem RX7 := ⟨hx, hb, hml, hown, hts⟩
  have hl := lv_entry ([.ref (ad o), .int st, .int sl]) (n := 4) (Nat.le_of_ble_eq_true rfl)
  rw [lg_entry_eq]
  generalize (lg_sl ([.ref (ad o), .int st, .int sl]) ++ List.replicate (4 - (lg_sl ([.ref (ad o), .int st, .int sl])).length) Slot.unset).toArray = ls at hl ⊢
  have hl : lv_has ls 4 [(0, .ref (ad o)), (1, .int st), (2, .int sl)] := hl
  refine lv_aload_n hx hb dX7_reservoirItem_0 rfl (lv_at hl 0 rfl) ?_
  refine lv_iload_n hx hb dX7_reservoirItem_1 rfl (lv_at hl 1 rfl) ?_
  refine lv_iconst (v := -1) hx hb dX7_reservoirItem_2 (by decide) ?_
  refine lv_iload_n hx hb dX7_reservoirItem_3 rfl (lv_at hl 2 rfl) ?_
  refine wrV [] (wMo G ad o r) [] (wMo G ad o (1, r.2)) (As := [.int st, .int (-1), .int sl]) (rest := []) CF (kn_X7_slotOf l G ad o r st (-1) sl hk) (cwV 3 hts gX7_reservoirItem_X7_slotOf rfl rfl rfl (by decide +kernel) ⟨Nat.le_of_ble_eq_true rfl, Nat.le_of_ble_eq_true rfl⟩) hP hD hS hA hY rfl rfl (fst_Mo _ _ _ _ _) rfl hl.1 rfl (lv_room (Nat.le_of_ble_eq_true rfl)) dX7_reservoirItem_4 ⟨Nat.zero_le _, Nat.zero_le _⟩ (fun H locs hP hD hS => ?_)
  have hP : va_P G.1 vwCl (wMo G ad o (1, r.2.1, r.2.2.1, r.2.2.2.1, r.2.2.2.2.1, r.2.2.2.2.2.1, r.2.2.2.2.2.2.1, r.2.2.2.2.2.2.2.1, r.2.2.2.2.2.2.2.2.1, r.2.2.2.2.2.2.2.2.2.1, r.2.2.2.2.2.2.2.2.2.2.1, r.2.2.2.2.2.2.2.2.2.2.2.1, r.2.2.2.2.2.2.2.2.2.2.2.2)) H := hP
  have hD : va_D A (wMo G ad o (1, r.2.1, r.2.2.1, r.2.2.2.1, r.2.2.2.2.1, r.2.2.2.2.2.1, r.2.2.2.2.2.2.1, r.2.2.2.2.2.2.2.1, r.2.2.2.2.2.2.2.2.1, r.2.2.2.2.2.2.2.2.2.1, r.2.2.2.2.2.2.2.2.2.2.1, r.2.2.2.2.2.2.2.2.2.2.2.1, r.2.2.2.2.2.2.2.2.2.2.2.2)) := hD
  refine lv_istore_n (lv' := [(3, .int (-1)), (0, .ref (ad o)), (1, .int st), (2, .int sl)]) hx hb dX7_reservoirItem_7 rfl hl (by decide) rfl (fun ls hl => ?_)
  refine lv_iload_n hx hb dX7_reservoirItem_8 rfl (lv_at hl 0 rfl) ?_
  refine lv_iconst (v := -1) hx hb dX7_reservoirItem_9 (by decide) ?_
  refine lv_icmp_ne (tgt := 17) hx hb dX7_reservoirItem_10 (by decide) (fun h10_1 => ?_) (fun h10_1 => ?_)
  · exact absurd rfl h10_1
  · refine lv_iconst (v := 0) hx hb dX7_reservoirItem_13 (by decide) ?_
    refine lv_goto (tgt := 23) hx hb dX7_reservoirItem_14 (by decide) ?_
    exact wr_iret hx hb hr hlk hS hP (by first | with_reducible rfl | (simp only [sld_eq, eq_true h10_1, ↓reduceIte]; done)) (by first | with_reducible rfl | (simp only [sld_eq, eq_true h10_1, ↓reduceIte]; done)) dX7_reservoirItem_23

set_option maxHeartbeats 4000000 in
set_option maxRecDepth 100000 in
theorem k_X7_reservoirPosition (l : Launch) (G : GT) (ad : Nat → Nat) (o : Nat) (r : MoT) (st sl : Int32) (h0 : okA st 0 1) (hB : okB r.2.2.2.1 st) (hf : ¬ (mSl r.2.2.2.1 r.2.1 r.2.2.2.2.2.2.1 r.2.2.2.2.2.2.2.1 st (-1) sl) = (-1)) (hv : vp_in (mSl r.2.2.2.1 r.2.1 r.2.2.2.2.2.2.1 r.2.2.2.2.2.2.2.1 st (-1) sl) 600) : Wr l yX7_reservoirPosition wsX7_reservoirPosition { frames := 2, cells := 0, slots := 0, locals := 52 } G (wMo G ad o r) (wMo G ad o (0, r.2)) [.ref (ad o), .int st, .int sl] (some (.int (((mSl r.2.2.2.1 r.2.1 r.2.2.2.2.2.2.1 r.2.2.2.2.2.2.2.1 st (-1) sl) - (mSl r.2.2.2.1 r.2.1 r.2.2.2.2.2.2.1 r.2.2.2.2.2.2.2.1 st (-1) sl) / 300 * 300) + 1))) := by
  intro sz
  refine Met.ofW (cc := cX7_reservoirPosition) (maxL := 4) (ret := (some .int)) (by decide) rfl ?_
  intro p e s m args below meth c s₁ B hml hv
  obtain ⟨rfl, hsz, hP, hY, hD0⟩ := hv
  subst hsz
  have hD := hD0.self (sz := s.heap.size)
  generalize hAe : va_A (wMo G ad o r) s.heap.size = A at hD ⊢
  have hA : ∀ q : Nat, s.heap.size ≤ q → A q := fun q h => by rw [← hAe]; exact Or.inr h
  have hS : va_S A s.heap s.heap [] := va_S.rf
  have hx := B.exec
  have hb := B.bytes
  have hr := B.returns
  have hts := atoms_spec (ws := wsX7_reservoirPosition) B.pre
  have hown : s.vm.findClass RX7 = some m.cls := findClass_of_methodNamed B.named
  have hlk := B.notSynchronized
  have CF : CallFix p m c cX7_reservoirPosition 4 s _ wsX7_reservoirPosition RX7 := ⟨hx, hb, hml, hown, hts⟩
  have hl := lv_entry ([.ref (ad o), .int st, .int sl]) (n := 4) (Nat.le_of_ble_eq_true rfl)
  rw [lg_entry_eq]
  generalize (lg_sl ([.ref (ad o), .int st, .int sl]) ++ List.replicate (4 - (lg_sl ([.ref (ad o), .int st, .int sl])).length) Slot.unset).toArray = ls at hl ⊢
  have hl : lv_has ls 4 [(0, .ref (ad o)), (1, .int st), (2, .int sl)] := hl
  refine lv_aload_n hx hb dX7_reservoirPosition_0 rfl (lv_at hl 0 rfl) ?_
  refine lv_iload_n hx hb dX7_reservoirPosition_1 rfl (lv_at hl 1 rfl) ?_
  refine lv_iconst (v := -1) hx hb dX7_reservoirPosition_2 (by decide) ?_
  refine lv_iload_n hx hb dX7_reservoirPosition_3 rfl (lv_at hl 2 rfl) ?_
  refine wrV [] (wMo G ad o r) [] (wMo G ad o (0, r.2)) (As := [.int st, .int (-1), .int sl]) (rest := []) CF (k_X7_slotOf l G ad o r st (-1) sl h0 (by decide) hB hf) (cwV 3 hts gX7_reservoirPosition_X7_slotOf rfl rfl rfl (by decide +kernel) ⟨Nat.le_of_ble_eq_true rfl, Nat.le_of_ble_eq_true rfl⟩) hP hD hS hA hY rfl rfl (fst_Mo _ _ _ _ _) rfl hl.1 rfl (lv_room (Nat.le_of_ble_eq_true rfl)) dX7_reservoirPosition_4 ⟨Nat.zero_le _, Nat.zero_le _⟩ (fun H locs hP hD hS => ?_)
  have hP : va_P G.1 vwCl (wMo G ad o (0, r.2.1, r.2.2.1, r.2.2.2.1, r.2.2.2.2.1, r.2.2.2.2.2.1, r.2.2.2.2.2.2.1, r.2.2.2.2.2.2.2.1, r.2.2.2.2.2.2.2.2.1, r.2.2.2.2.2.2.2.2.2.1, r.2.2.2.2.2.2.2.2.2.2.1, r.2.2.2.2.2.2.2.2.2.2.2.1, r.2.2.2.2.2.2.2.2.2.2.2.2)) H := hP
  have hD : va_D A (wMo G ad o (0, r.2.1, r.2.2.1, r.2.2.2.1, r.2.2.2.2.1, r.2.2.2.2.2.1, r.2.2.2.2.2.2.1, r.2.2.2.2.2.2.2.1, r.2.2.2.2.2.2.2.2.1, r.2.2.2.2.2.2.2.2.2.1, r.2.2.2.2.2.2.2.2.2.2.1, r.2.2.2.2.2.2.2.2.2.2.2.1, r.2.2.2.2.2.2.2.2.2.2.2.2)) := hD
  refine lv_istore_n (lv' := [(3, .int (mSl r.2.2.2.1 r.2.1 r.2.2.2.2.2.2.1 r.2.2.2.2.2.2.2.1 st (-1) sl)), (0, .ref (ad o)), (1, .int st), (2, .int sl)]) hx hb dX7_reservoirPosition_7 rfl hl (by decide) rfl (fun ls hl => ?_)
  refine lv_iload_n hx hb dX7_reservoirPosition_8 rfl (lv_at hl 0 rfl) ?_
  refine lv_iconst (v := -1) hx hb dX7_reservoirPosition_9 (by decide) ?_
  refine lv_icmp_ne (tgt := 17) hx hb dX7_reservoirPosition_10 (by decide) (fun h10_1 => ?_) (fun h10_1 => ?_)
  · refine lv_iload_n hx hb dX7_reservoirPosition_17 rfl (lv_at hl 0 rfl) ?_
    refine lv_sipush (v := 300) hx hb dX7_reservoirPosition_18 (by decide) ?_
    refine lv_irem hx hb dX7_reservoirPosition_21 (by decide) ?_
    refine lv_iconst (v := 1) hx hb dX7_reservoirPosition_22 (by decide) ?_
    refine lv_iadd hx hb dX7_reservoirPosition_23 ?_
    exact wr_iret hx hb hr hlk hS hP (by first | with_reducible rfl | (simp only [sld_eq, h10_1, ↓reduceIte]; done)) (by first | with_reducible rfl | (simp only [sld_eq, h10_1, ↓reduceIte]; done)) dX7_reservoirPosition_24
  · exact absurd h10_1 hf

set_option maxHeartbeats 4000000 in
set_option maxRecDepth 100000 in
theorem km_X7_reservoirPosition (l : Launch) (G : GT) (ad : Nat → Nat) (o : Nat) (r : MoT) (st sl : Int32) (h0 : okA st 0 1) (hB : okB r.2.2.2.1 st) (hf : (mSl r.2.2.2.1 r.2.1 r.2.2.2.2.2.2.1 r.2.2.2.2.2.2.2.1 st (-1) sl) = (-1)) : Wr l yX7_reservoirPosition wsX7_reservoirPosition { frames := 2, cells := 0, slots := 0, locals := 52 } G (wMo G ad o r) (wMo G ad o (2, r.2)) [.ref (ad o), .int st, .int sl] (some (.int 0)) := by
  intro sz
  refine Met.ofW (cc := cX7_reservoirPosition) (maxL := 4) (ret := (some .int)) (by decide) rfl ?_
  intro p e s m args below meth c s₁ B hml hv
  obtain ⟨rfl, hsz, hP, hY, hD0⟩ := hv
  subst hsz
  have hD := hD0.self (sz := s.heap.size)
  generalize hAe : va_A (wMo G ad o r) s.heap.size = A at hD ⊢
  have hA : ∀ q : Nat, s.heap.size ≤ q → A q := fun q h => by rw [← hAe]; exact Or.inr h
  have hS : va_S A s.heap s.heap [] := va_S.rf
  have hx := B.exec
  have hb := B.bytes
  have hr := B.returns
  have hts := atoms_spec (ws := wsX7_reservoirPosition) B.pre
  have hown : s.vm.findClass RX7 = some m.cls := findClass_of_methodNamed B.named
  have hlk := B.notSynchronized
  have CF : CallFix p m c cX7_reservoirPosition 4 s _ wsX7_reservoirPosition RX7 := ⟨hx, hb, hml, hown, hts⟩
  have hl := lv_entry ([.ref (ad o), .int st, .int sl]) (n := 4) (Nat.le_of_ble_eq_true rfl)
  rw [lg_entry_eq]
  generalize (lg_sl ([.ref (ad o), .int st, .int sl]) ++ List.replicate (4 - (lg_sl ([.ref (ad o), .int st, .int sl])).length) Slot.unset).toArray = ls at hl ⊢
  have hl : lv_has ls 4 [(0, .ref (ad o)), (1, .int st), (2, .int sl)] := hl
  refine lv_aload_n hx hb dX7_reservoirPosition_0 rfl (lv_at hl 0 rfl) ?_
  refine lv_iload_n hx hb dX7_reservoirPosition_1 rfl (lv_at hl 1 rfl) ?_
  refine lv_iconst (v := -1) hx hb dX7_reservoirPosition_2 (by decide) ?_
  refine lv_iload_n hx hb dX7_reservoirPosition_3 rfl (lv_at hl 2 rfl) ?_
  refine wrV [] (wMo G ad o r) [] (wMo G ad o (2, r.2)) (As := [.int st, .int (-1), .int sl]) (rest := []) CF (km_X7_slotOf l G ad o r st (-1) sl h0 (by decide) hB hf) (cwV 3 hts gX7_reservoirPosition_X7_slotOf rfl rfl rfl (by decide +kernel) ⟨Nat.le_of_ble_eq_true rfl, Nat.le_of_ble_eq_true rfl⟩) hP hD hS hA hY rfl rfl (fst_Mo _ _ _ _ _) rfl hl.1 rfl (lv_room (Nat.le_of_ble_eq_true rfl)) dX7_reservoirPosition_4 ⟨Nat.zero_le _, Nat.zero_le _⟩ (fun H locs hP hD hS => ?_)
  have hP : va_P G.1 vwCl (wMo G ad o (2, r.2.1, r.2.2.1, r.2.2.2.1, r.2.2.2.2.1, r.2.2.2.2.2.1, r.2.2.2.2.2.2.1, r.2.2.2.2.2.2.2.1, r.2.2.2.2.2.2.2.2.1, r.2.2.2.2.2.2.2.2.2.1, r.2.2.2.2.2.2.2.2.2.2.1, r.2.2.2.2.2.2.2.2.2.2.2.1, r.2.2.2.2.2.2.2.2.2.2.2.2)) H := hP
  have hD : va_D A (wMo G ad o (2, r.2.1, r.2.2.1, r.2.2.2.1, r.2.2.2.2.1, r.2.2.2.2.2.1, r.2.2.2.2.2.2.1, r.2.2.2.2.2.2.2.1, r.2.2.2.2.2.2.2.2.1, r.2.2.2.2.2.2.2.2.2.1, r.2.2.2.2.2.2.2.2.2.2.1, r.2.2.2.2.2.2.2.2.2.2.2.1, r.2.2.2.2.2.2.2.2.2.2.2.2)) := hD
  refine lv_istore_n (lv' := [(3, .int (-1)), (0, .ref (ad o)), (1, .int st), (2, .int sl)]) hx hb dX7_reservoirPosition_7 rfl hl (by decide) rfl (fun ls hl => ?_)
  refine lv_iload_n hx hb dX7_reservoirPosition_8 rfl (lv_at hl 0 rfl) ?_
  refine lv_iconst (v := -1) hx hb dX7_reservoirPosition_9 (by decide) ?_
  refine lv_icmp_ne (tgt := 17) hx hb dX7_reservoirPosition_10 (by decide) (fun h10_1 => ?_) (fun h10_1 => ?_)
  · exact absurd rfl h10_1
  · refine lv_iconst (v := 0) hx hb dX7_reservoirPosition_13 (by decide) ?_
    refine lv_goto (tgt := 24) hx hb dX7_reservoirPosition_14 (by decide) ?_
    exact wr_iret hx hb hr hlk hS hP (by first | with_reducible rfl | (simp only [sld_eq, eq_true h10_1, ↓reduceIte]; done)) (by first | with_reducible rfl | (simp only [sld_eq, eq_true h10_1, ↓reduceIte]; done)) dX7_reservoirPosition_24

set_option maxHeartbeats 4000000 in
set_option maxRecDepth 100000 in
theorem kn_X7_reservoirPosition (l : Launch) (G : GT) (ad : Nat → Nat) (o : Nat) (r : MoT) (st sl : Int32) (hk : ¬ okA st 0 1) : Wr l yX7_reservoirPosition wsX7_reservoirPosition { frames := 2, cells := 0, slots := 0, locals := 52 } G (wMo G ad o r) (wMo G ad o (1, r.2)) [.ref (ad o), .int st, .int sl] (some (.int 0)) := by
  intro sz
  refine Met.ofW (cc := cX7_reservoirPosition) (maxL := 4) (ret := (some .int)) (by decide) rfl ?_
  intro p e s m args below meth c s₁ B hml hv
  obtain ⟨rfl, hsz, hP, hY, hD0⟩ := hv
  subst hsz
  have hD := hD0.self (sz := s.heap.size)
  generalize hAe : va_A (wMo G ad o r) s.heap.size = A at hD ⊢
  have hA : ∀ q : Nat, s.heap.size ≤ q → A q := fun q h => by rw [← hAe]; exact Or.inr h
  have hS : va_S A s.heap s.heap [] := va_S.rf
  have hx := B.exec
  have hb := B.bytes
  have hr := B.returns
  have hts := atoms_spec (ws := wsX7_reservoirPosition) B.pre
  have hown : s.vm.findClass RX7 = some m.cls := findClass_of_methodNamed B.named
  have hlk := B.notSynchronized
  have CF : CallFix p m c cX7_reservoirPosition 4 s _ wsX7_reservoirPosition RX7 := ⟨hx, hb, hml, hown, hts⟩
  have hl := lv_entry ([.ref (ad o), .int st, .int sl]) (n := 4) (Nat.le_of_ble_eq_true rfl)
  rw [lg_entry_eq]
  generalize (lg_sl ([.ref (ad o), .int st, .int sl]) ++ List.replicate (4 - (lg_sl ([.ref (ad o), .int st, .int sl])).length) Slot.unset).toArray = ls at hl ⊢
  have hl : lv_has ls 4 [(0, .ref (ad o)), (1, .int st), (2, .int sl)] := hl
  refine lv_aload_n hx hb dX7_reservoirPosition_0 rfl (lv_at hl 0 rfl) ?_
  refine lv_iload_n hx hb dX7_reservoirPosition_1 rfl (lv_at hl 1 rfl) ?_
  refine lv_iconst (v := -1) hx hb dX7_reservoirPosition_2 (by decide) ?_
  refine lv_iload_n hx hb dX7_reservoirPosition_3 rfl (lv_at hl 2 rfl) ?_
  refine wrV [] (wMo G ad o r) [] (wMo G ad o (1, r.2)) (As := [.int st, .int (-1), .int sl]) (rest := []) CF (kn_X7_slotOf l G ad o r st (-1) sl hk) (cwV 3 hts gX7_reservoirPosition_X7_slotOf rfl rfl rfl (by decide +kernel) ⟨Nat.le_of_ble_eq_true rfl, Nat.le_of_ble_eq_true rfl⟩) hP hD hS hA hY rfl rfl (fst_Mo _ _ _ _ _) rfl hl.1 rfl (lv_room (Nat.le_of_ble_eq_true rfl)) dX7_reservoirPosition_4 ⟨Nat.zero_le _, Nat.zero_le _⟩ (fun H locs hP hD hS => ?_)
  have hP : va_P G.1 vwCl (wMo G ad o (1, r.2.1, r.2.2.1, r.2.2.2.1, r.2.2.2.2.1, r.2.2.2.2.2.1, r.2.2.2.2.2.2.1, r.2.2.2.2.2.2.2.1, r.2.2.2.2.2.2.2.2.1, r.2.2.2.2.2.2.2.2.2.1, r.2.2.2.2.2.2.2.2.2.2.1, r.2.2.2.2.2.2.2.2.2.2.2.1, r.2.2.2.2.2.2.2.2.2.2.2.2)) H := hP
  have hD : va_D A (wMo G ad o (1, r.2.1, r.2.2.1, r.2.2.2.1, r.2.2.2.2.1, r.2.2.2.2.2.1, r.2.2.2.2.2.2.1, r.2.2.2.2.2.2.2.1, r.2.2.2.2.2.2.2.2.1, r.2.2.2.2.2.2.2.2.2.1, r.2.2.2.2.2.2.2.2.2.2.1, r.2.2.2.2.2.2.2.2.2.2.2.1, r.2.2.2.2.2.2.2.2.2.2.2.2)) := hD
  refine lv_istore_n (lv' := [(3, .int (-1)), (0, .ref (ad o)), (1, .int st), (2, .int sl)]) hx hb dX7_reservoirPosition_7 rfl hl (by decide) rfl (fun ls hl => ?_)
  refine lv_iload_n hx hb dX7_reservoirPosition_8 rfl (lv_at hl 0 rfl) ?_
  refine lv_iconst (v := -1) hx hb dX7_reservoirPosition_9 (by decide) ?_
  refine lv_icmp_ne (tgt := 17) hx hb dX7_reservoirPosition_10 (by decide) (fun h10_1 => ?_) (fun h10_1 => ?_)
  · exact absurd rfl h10_1
  · refine lv_iconst (v := 0) hx hb dX7_reservoirPosition_13 (by decide) ?_
    refine lv_goto (tgt := 24) hx hb dX7_reservoirPosition_14 (by decide) ?_
    exact wr_iret hx hb hr hlk hS hP (by first | with_reducible rfl | (simp only [sld_eq, eq_true h10_1, ↓reduceIte]; done)) (by first | with_reducible rfl | (simp only [sld_eq, eq_true h10_1, ↓reduceIte]; done)) dX7_reservoirPosition_24

set_option maxHeartbeats 4000000 in
set_option maxRecDepth 100000 in
theorem k_X7_groupItem (l : Launch) (G : GT) (ad : Nat → Nat) (o : Nat) (r : MoT) (st g sl : Int32) (h0 : okA st 0 1) (hg : okA g 0 3) (hB : okB r.2.2.2.1 st) (hf : ¬ (mSl r.2.2.2.1 r.2.1 r.2.2.2.2.2.2.1 r.2.2.2.2.2.2.2.1 st g sl) = (-1)) (hv : vp_in (mSl r.2.2.2.1 r.2.1 r.2.2.2.2.2.2.1 r.2.2.2.2.2.2.2.1 st g sl) 600) : Wr l yX7_groupItem wsX7_groupItem { frames := 2, cells := 0, slots := 0, locals := 52 } G (wMo G ad o r) (wMo G ad o (0, r.2)) [.ref (ad o), .int st, .int g, .int sl] (some (.int (r.2.2.2.2.1 (mSl r.2.2.2.1 r.2.1 r.2.2.2.2.2.2.1 r.2.2.2.2.2.2.2.1 st g sl).toNatClampNeg))) := by
  intro sz
  refine Met.ofW (cc := cX7_groupItem) (maxL := 5) (ret := (some .int)) (by decide) rfl ?_
  intro p e s m args below meth c s₁ B hml hv
  obtain ⟨rfl, hsz, hP, hY, hD0⟩ := hv
  subst hsz
  have hD := hD0.self (sz := s.heap.size)
  generalize hAe : va_A (wMo G ad o r) s.heap.size = A at hD ⊢
  have hA : ∀ q : Nat, s.heap.size ≤ q → A q := fun q h => by rw [← hAe]; exact Or.inr h
  have hS : va_S A s.heap s.heap [] := va_S.rf
  have hx := B.exec
  have hb := B.bytes
  have hr := B.returns
  have hts := atoms_spec (ws := wsX7_groupItem) B.pre
  have hown : s.vm.findClass RX7 = some m.cls := findClass_of_methodNamed B.named
  have hlk := B.notSynchronized
  have CF : CallFix p m c cX7_groupItem 5 s _ wsX7_groupItem RX7 := ⟨hx, hb, hml, hown, hts⟩
  have hiX7 : ∀ w ∈ wsX70, w ∈ wsX7_groupItem := fun w h => (List.mem_cons_of_mem _ (List.mem_append_right _ h))
  have kf20 := hts (.fieldLink RX7 20 "ReservoirReedModel" "items" "[I") (List.mem_cons_of_mem _ (List.mem_append_left _ (List.mem_append_left _ (List.mem_of_getElem? (i := 0) rfl))))
  have hl := lv_entry ([.ref (ad o), .int st, .int g, .int sl]) (n := 5) (Nat.le_of_ble_eq_true rfl)
  rw [lg_entry_eq]
  generalize (lg_sl ([.ref (ad o), .int st, .int g, .int sl]) ++ List.replicate (5 - (lg_sl ([.ref (ad o), .int st, .int g, .int sl])).length) Slot.unset).toArray = ls at hl ⊢
  have hl : lv_has ls 5 [(0, .ref (ad o)), (1, .int st), (2, .int g), (3, .int sl)] := hl
  refine lv_aload_n hx hb dX7_groupItem_0 rfl (lv_at hl 0 rfl) ?_
  refine lv_iload_n hx hb dX7_groupItem_1 rfl (lv_at hl 1 rfl) ?_
  refine lv_iconst (v := 1) hx hb dX7_groupItem_2 (by decide) ?_
  refine lv_iload_n hx hb dX7_groupItem_3 rfl (lv_at hl 2 rfl) ?_
  refine wrV [] (wMo G ad o r) [] (wMo G ad o (0, r.2)) (As := [.int st, .int 1, .int g]) (rest := []) CF (k_X7_noGroup l G ad o r st 1 g h0 hg) (cwV 3 hts gX7_groupItem_X7_noGroup rfl rfl rfl (by decide +kernel) ⟨Nat.le_of_ble_eq_true rfl, Nat.le_of_ble_eq_true rfl⟩) hP hD hS hA hY rfl rfl (fst_Mo _ _ _ _ _) rfl hl.1 rfl (lv_room (Nat.le_of_ble_eq_true rfl)) dX7_groupItem_4 ⟨Nat.zero_le _, Nat.zero_le _⟩ (fun H locs hP hD hS => ?_)
  have hP : va_P G.1 vwCl (wMo G ad o (0, r.2.1, r.2.2.1, r.2.2.2.1, r.2.2.2.2.1, r.2.2.2.2.2.1, r.2.2.2.2.2.2.1, r.2.2.2.2.2.2.2.1, r.2.2.2.2.2.2.2.2.1, r.2.2.2.2.2.2.2.2.2.1, r.2.2.2.2.2.2.2.2.2.2.1, r.2.2.2.2.2.2.2.2.2.2.2.1, r.2.2.2.2.2.2.2.2.2.2.2.2)) H := hP
  have hD : va_D A (wMo G ad o (0, r.2.1, r.2.2.1, r.2.2.2.1, r.2.2.2.2.1, r.2.2.2.2.2.1, r.2.2.2.2.2.2.1, r.2.2.2.2.2.2.2.1, r.2.2.2.2.2.2.2.2.1, r.2.2.2.2.2.2.2.2.2.1, r.2.2.2.2.2.2.2.2.2.2.1, r.2.2.2.2.2.2.2.2.2.2.2.1, r.2.2.2.2.2.2.2.2.2.2.2.2)) := hD
  refine lv_if_eq (tgt := 12) hx hb dX7_groupItem_7 (by decide) (fun h7_1 => ?_) (fun h7_1 => ?_)
  · refine lv_aload_n hx hb dX7_groupItem_12 rfl (lv_at hl 0 rfl) ?_
    refine lv_iload_n hx hb dX7_groupItem_13 rfl (lv_at hl 1 rfl) ?_
    refine lv_iload_n hx hb dX7_groupItem_14 rfl (lv_at hl 2 rfl) ?_
    refine lv_iload_n hx hb dX7_groupItem_15 rfl (lv_at hl 3 rfl) ?_
    refine wrV [] (wMo G ad o (0, r.2.1, r.2.2.1, r.2.2.2.1, r.2.2.2.2.1, r.2.2.2.2.2.1, r.2.2.2.2.2.2.1, r.2.2.2.2.2.2.2.1, r.2.2.2.2.2.2.2.2.1, r.2.2.2.2.2.2.2.2.2.1, r.2.2.2.2.2.2.2.2.2.2.1, r.2.2.2.2.2.2.2.2.2.2.2.1, r.2.2.2.2.2.2.2.2.2.2.2.2)) [] (wMo G ad o (0, (0, r.2.1, r.2.2.1, r.2.2.2.1, r.2.2.2.2.1, r.2.2.2.2.2.1, r.2.2.2.2.2.2.1, r.2.2.2.2.2.2.2.1, r.2.2.2.2.2.2.2.2.1, r.2.2.2.2.2.2.2.2.2.1, r.2.2.2.2.2.2.2.2.2.2.1, r.2.2.2.2.2.2.2.2.2.2.2.1, r.2.2.2.2.2.2.2.2.2.2.2.2).2)) (As := [.int st, .int g, .int sl]) (rest := []) CF (k_X7_slotOf l G ad o (0, r.2.1, r.2.2.1, r.2.2.2.1, r.2.2.2.2.1, r.2.2.2.2.2.1, r.2.2.2.2.2.2.1, r.2.2.2.2.2.2.2.1, r.2.2.2.2.2.2.2.2.1, r.2.2.2.2.2.2.2.2.2.1, r.2.2.2.2.2.2.2.2.2.2.1, r.2.2.2.2.2.2.2.2.2.2.2.1, r.2.2.2.2.2.2.2.2.2.2.2.2) st g sl h0 (ok3_of hg) hB hf) (cwV 3 hts gX7_groupItem_X7_slotOf rfl rfl rfl (by decide +kernel) ⟨Nat.le_of_ble_eq_true rfl, Nat.le_of_ble_eq_true rfl⟩) hP hD hS hA hY rfl rfl (fst_Mo _ _ _ _ _) rfl hl.1 rfl (lv_room (Nat.le_of_ble_eq_true rfl)) dX7_groupItem_16 ⟨Nat.zero_le _, Nat.zero_le _⟩ (fun H locs hP hD hS => ?_)
    have hP : va_P G.1 vwCl (wMo G ad o (0, r.2.1, r.2.2.1, r.2.2.2.1, r.2.2.2.2.1, r.2.2.2.2.2.1, r.2.2.2.2.2.2.1, r.2.2.2.2.2.2.2.1, r.2.2.2.2.2.2.2.2.1, r.2.2.2.2.2.2.2.2.2.1, r.2.2.2.2.2.2.2.2.2.2.1, r.2.2.2.2.2.2.2.2.2.2.2.1, r.2.2.2.2.2.2.2.2.2.2.2.2)) H := hP
    have hD : va_D A (wMo G ad o (0, r.2.1, r.2.2.1, r.2.2.2.1, r.2.2.2.2.1, r.2.2.2.2.2.1, r.2.2.2.2.2.2.1, r.2.2.2.2.2.2.2.1, r.2.2.2.2.2.2.2.2.1, r.2.2.2.2.2.2.2.2.2.1, r.2.2.2.2.2.2.2.2.2.2.1, r.2.2.2.2.2.2.2.2.2.2.2.1, r.2.2.2.2.2.2.2.2.2.2.2.2)) := hD
    refine lv_istore (lv' := [(4, .int (mSl (0, r.2.1, r.2.2.1, r.2.2.2.1, r.2.2.2.2.1, r.2.2.2.2.2.1, r.2.2.2.2.2.2.1, r.2.2.2.2.2.2.2.1, r.2.2.2.2.2.2.2.2.1, r.2.2.2.2.2.2.2.2.2.1, r.2.2.2.2.2.2.2.2.2.2.1, r.2.2.2.2.2.2.2.2.2.2.2.1, r.2.2.2.2.2.2.2.2.2.2.2.2).2.2.2.1 (0, r.2.1, r.2.2.1, r.2.2.2.1, r.2.2.2.2.1, r.2.2.2.2.2.1, r.2.2.2.2.2.2.1, r.2.2.2.2.2.2.2.1, r.2.2.2.2.2.2.2.2.1, r.2.2.2.2.2.2.2.2.2.1, r.2.2.2.2.2.2.2.2.2.2.1, r.2.2.2.2.2.2.2.2.2.2.2.1, r.2.2.2.2.2.2.2.2.2.2.2.2).2.1 (0, r.2.1, r.2.2.1, r.2.2.2.1, r.2.2.2.2.1, r.2.2.2.2.2.1, r.2.2.2.2.2.2.1, r.2.2.2.2.2.2.2.1, r.2.2.2.2.2.2.2.2.1, r.2.2.2.2.2.2.2.2.2.1, r.2.2.2.2.2.2.2.2.2.2.1, r.2.2.2.2.2.2.2.2.2.2.2.1, r.2.2.2.2.2.2.2.2.2.2.2.2).2.2.2.2.2.2.1 (0, r.2.1, r.2.2.1, r.2.2.2.1, r.2.2.2.2.1, r.2.2.2.2.2.1, r.2.2.2.2.2.2.1, r.2.2.2.2.2.2.2.1, r.2.2.2.2.2.2.2.2.1, r.2.2.2.2.2.2.2.2.2.1, r.2.2.2.2.2.2.2.2.2.2.1, r.2.2.2.2.2.2.2.2.2.2.2.1, r.2.2.2.2.2.2.2.2.2.2.2.2).2.2.2.2.2.2.2.1 st g sl)), (0, .ref (ad o)), (1, .int st), (2, .int g), (3, .int sl)]) hx hb dX7_groupItem_19 hl (by decide) rfl (fun ls hl => ?_)
    refine lv_iload hx hb dX7_groupItem_21 (lv_at hl 0 rfl) ?_
    refine lv_iconst (v := -1) hx hb dX7_groupItem_23 (by decide) ?_
    refine lv_icmp_ne (tgt := 31) hx hb dX7_groupItem_24 (by decide) (fun h24_2 => ?_) (fun h24_2 => ?_)
    · refine lv_aload_n hx hb dX7_groupItem_31 rfl (lv_at hl 1 rfl) ?_
      refine va_get (D := G.1) (ci := 7) (v := .ref (ad (o+2))) (C := RX7) (T := TX7) (N := 13) hx hb hts hiX7 hown hY.1 hP 0 rfl rfl 4 (by decide) kf20 (fun _ h9 => h9) rfl dX7_groupItem_32 ?_
      refine lv_iload hx hb dX7_groupItem_35 (lv_at hl 0 rfl) ?_
      refine va_iald hx hb hY.1 hP 2 0 rfl rfl hv dX7_groupItem_37 ?_
      exact wr_iret hx hb hr hlk hS hP (by first | with_reducible rfl | (simp only [sld_eq, eq_true h7_1, h24_2, ↓reduceIte]; done)) (by first | with_reducible rfl | (simp only [sld_eq, eq_true h7_1, h24_2, ↓reduceIte]; done)) dX7_groupItem_38
    · exact absurd h24_2 hf
  · exact absurd rfl h7_1

set_option maxHeartbeats 4000000 in
set_option maxRecDepth 100000 in
theorem km_X7_groupItem (l : Launch) (G : GT) (ad : Nat → Nat) (o : Nat) (r : MoT) (st g sl : Int32) (h0 : okA st 0 1) (hg : okA g 0 3) (hB : okB r.2.2.2.1 st) (hf : (mSl r.2.2.2.1 r.2.1 r.2.2.2.2.2.2.1 r.2.2.2.2.2.2.2.1 st g sl) = (-1)) : Wr l yX7_groupItem wsX7_groupItem { frames := 2, cells := 0, slots := 0, locals := 52 } G (wMo G ad o r) (wMo G ad o (2, r.2)) [.ref (ad o), .int st, .int g, .int sl] (some (.int 0)) := by
  intro sz
  refine Met.ofW (cc := cX7_groupItem) (maxL := 5) (ret := (some .int)) (by decide) rfl ?_
  intro p e s m args below meth c s₁ B hml hv
  obtain ⟨rfl, hsz, hP, hY, hD0⟩ := hv
  subst hsz
  have hD := hD0.self (sz := s.heap.size)
  generalize hAe : va_A (wMo G ad o r) s.heap.size = A at hD ⊢
  have hA : ∀ q : Nat, s.heap.size ≤ q → A q := fun q h => by rw [← hAe]; exact Or.inr h
  have hS : va_S A s.heap s.heap [] := va_S.rf
  have hx := B.exec
  have hb := B.bytes
  have hr := B.returns
  have hts := atoms_spec (ws := wsX7_groupItem) B.pre
  have hown : s.vm.findClass RX7 = some m.cls := findClass_of_methodNamed B.named
  have hlk := B.notSynchronized
  have CF : CallFix p m c cX7_groupItem 5 s _ wsX7_groupItem RX7 := ⟨hx, hb, hml, hown, hts⟩
  have hl := lv_entry ([.ref (ad o), .int st, .int g, .int sl]) (n := 5) (Nat.le_of_ble_eq_true rfl)
  rw [lg_entry_eq]
  generalize (lg_sl ([.ref (ad o), .int st, .int g, .int sl]) ++ List.replicate (5 - (lg_sl ([.ref (ad o), .int st, .int g, .int sl])).length) Slot.unset).toArray = ls at hl ⊢
  have hl : lv_has ls 5 [(0, .ref (ad o)), (1, .int st), (2, .int g), (3, .int sl)] := hl
  refine lv_aload_n hx hb dX7_groupItem_0 rfl (lv_at hl 0 rfl) ?_
  refine lv_iload_n hx hb dX7_groupItem_1 rfl (lv_at hl 1 rfl) ?_
  refine lv_iconst (v := 1) hx hb dX7_groupItem_2 (by decide) ?_
  refine lv_iload_n hx hb dX7_groupItem_3 rfl (lv_at hl 2 rfl) ?_
  refine wrV [] (wMo G ad o r) [] (wMo G ad o (0, r.2)) (As := [.int st, .int 1, .int g]) (rest := []) CF (k_X7_noGroup l G ad o r st 1 g h0 hg) (cwV 3 hts gX7_groupItem_X7_noGroup rfl rfl rfl (by decide +kernel) ⟨Nat.le_of_ble_eq_true rfl, Nat.le_of_ble_eq_true rfl⟩) hP hD hS hA hY rfl rfl (fst_Mo _ _ _ _ _) rfl hl.1 rfl (lv_room (Nat.le_of_ble_eq_true rfl)) dX7_groupItem_4 ⟨Nat.zero_le _, Nat.zero_le _⟩ (fun H locs hP hD hS => ?_)
  have hP : va_P G.1 vwCl (wMo G ad o (0, r.2.1, r.2.2.1, r.2.2.2.1, r.2.2.2.2.1, r.2.2.2.2.2.1, r.2.2.2.2.2.2.1, r.2.2.2.2.2.2.2.1, r.2.2.2.2.2.2.2.2.1, r.2.2.2.2.2.2.2.2.2.1, r.2.2.2.2.2.2.2.2.2.2.1, r.2.2.2.2.2.2.2.2.2.2.2.1, r.2.2.2.2.2.2.2.2.2.2.2.2)) H := hP
  have hD : va_D A (wMo G ad o (0, r.2.1, r.2.2.1, r.2.2.2.1, r.2.2.2.2.1, r.2.2.2.2.2.1, r.2.2.2.2.2.2.1, r.2.2.2.2.2.2.2.1, r.2.2.2.2.2.2.2.2.1, r.2.2.2.2.2.2.2.2.2.1, r.2.2.2.2.2.2.2.2.2.2.1, r.2.2.2.2.2.2.2.2.2.2.2.1, r.2.2.2.2.2.2.2.2.2.2.2.2)) := hD
  refine lv_if_eq (tgt := 12) hx hb dX7_groupItem_7 (by decide) (fun h7_1 => ?_) (fun h7_1 => ?_)
  · refine lv_aload_n hx hb dX7_groupItem_12 rfl (lv_at hl 0 rfl) ?_
    refine lv_iload_n hx hb dX7_groupItem_13 rfl (lv_at hl 1 rfl) ?_
    refine lv_iload_n hx hb dX7_groupItem_14 rfl (lv_at hl 2 rfl) ?_
    refine lv_iload_n hx hb dX7_groupItem_15 rfl (lv_at hl 3 rfl) ?_
    refine wrV [] (wMo G ad o (0, r.2.1, r.2.2.1, r.2.2.2.1, r.2.2.2.2.1, r.2.2.2.2.2.1, r.2.2.2.2.2.2.1, r.2.2.2.2.2.2.2.1, r.2.2.2.2.2.2.2.2.1, r.2.2.2.2.2.2.2.2.2.1, r.2.2.2.2.2.2.2.2.2.2.1, r.2.2.2.2.2.2.2.2.2.2.2.1, r.2.2.2.2.2.2.2.2.2.2.2.2)) [] (wMo G ad o (2, (0, r.2.1, r.2.2.1, r.2.2.2.1, r.2.2.2.2.1, r.2.2.2.2.2.1, r.2.2.2.2.2.2.1, r.2.2.2.2.2.2.2.1, r.2.2.2.2.2.2.2.2.1, r.2.2.2.2.2.2.2.2.2.1, r.2.2.2.2.2.2.2.2.2.2.1, r.2.2.2.2.2.2.2.2.2.2.2.1, r.2.2.2.2.2.2.2.2.2.2.2.2).2)) (As := [.int st, .int g, .int sl]) (rest := []) CF (km_X7_slotOf l G ad o (0, r.2.1, r.2.2.1, r.2.2.2.1, r.2.2.2.2.1, r.2.2.2.2.2.1, r.2.2.2.2.2.2.1, r.2.2.2.2.2.2.2.1, r.2.2.2.2.2.2.2.2.1, r.2.2.2.2.2.2.2.2.2.1, r.2.2.2.2.2.2.2.2.2.2.1, r.2.2.2.2.2.2.2.2.2.2.2.1, r.2.2.2.2.2.2.2.2.2.2.2.2) st g sl h0 (ok3_of hg) hB hf) (cwV 3 hts gX7_groupItem_X7_slotOf rfl rfl rfl (by decide +kernel) ⟨Nat.le_of_ble_eq_true rfl, Nat.le_of_ble_eq_true rfl⟩) hP hD hS hA hY rfl rfl (fst_Mo _ _ _ _ _) rfl hl.1 rfl (lv_room (Nat.le_of_ble_eq_true rfl)) dX7_groupItem_16 ⟨Nat.zero_le _, Nat.zero_le _⟩ (fun H locs hP hD hS => ?_)
    have hP : va_P G.1 vwCl (wMo G ad o (2, r.2.1, r.2.2.1, r.2.2.2.1, r.2.2.2.2.1, r.2.2.2.2.2.1, r.2.2.2.2.2.2.1, r.2.2.2.2.2.2.2.1, r.2.2.2.2.2.2.2.2.1, r.2.2.2.2.2.2.2.2.2.1, r.2.2.2.2.2.2.2.2.2.2.1, r.2.2.2.2.2.2.2.2.2.2.2.1, r.2.2.2.2.2.2.2.2.2.2.2.2)) H := hP
    have hD : va_D A (wMo G ad o (2, r.2.1, r.2.2.1, r.2.2.2.1, r.2.2.2.2.1, r.2.2.2.2.2.1, r.2.2.2.2.2.2.1, r.2.2.2.2.2.2.2.1, r.2.2.2.2.2.2.2.2.1, r.2.2.2.2.2.2.2.2.2.1, r.2.2.2.2.2.2.2.2.2.2.1, r.2.2.2.2.2.2.2.2.2.2.2.1, r.2.2.2.2.2.2.2.2.2.2.2.2)) := hD
    refine lv_istore (lv' := [(4, .int (-1)), (0, .ref (ad o)), (1, .int st), (2, .int g), (3, .int sl)]) hx hb dX7_groupItem_19 hl (by decide) rfl (fun ls hl => ?_)
    refine lv_iload hx hb dX7_groupItem_21 (lv_at hl 0 rfl) ?_
    refine lv_iconst (v := -1) hx hb dX7_groupItem_23 (by decide) ?_
    refine lv_icmp_ne (tgt := 31) hx hb dX7_groupItem_24 (by decide) (fun h24_2 => ?_) (fun h24_2 => ?_)
    · exact absurd rfl h24_2
    · refine lv_iconst (v := 0) hx hb dX7_groupItem_27 (by decide) ?_
      refine lv_goto (tgt := 38) hx hb dX7_groupItem_28 (by decide) ?_
      exact wr_iret hx hb hr hlk hS hP (by first | with_reducible rfl | (simp only [sld_eq, eq_true h7_1, eq_true h24_2, ↓reduceIte]; done)) (by first | with_reducible rfl | (simp only [sld_eq, eq_true h7_1, eq_true h24_2, ↓reduceIte]; done)) dX7_groupItem_38
  · exact absurd rfl h7_1

set_option maxHeartbeats 4000000 in
set_option maxRecDepth 100000 in
theorem kn_X7_groupItem (l : Launch) (G : GT) (ad : Nat → Nat) (o : Nat) (r : MoT) (st g sl : Int32) (hk : ¬ (okA st 0 1 ∧ okA g 0 3)) : Wr l yX7_groupItem wsX7_groupItem { frames := 2, cells := 0, slots := 0, locals := 52 } G (wMo G ad o r) (wMo G ad o (1, r.2)) [.ref (ad o), .int st, .int g, .int sl] (some (.int 0)) := by
  intro sz
  refine Met.ofW (cc := cX7_groupItem) (maxL := 5) (ret := (some .int)) (by decide) rfl ?_
  intro p e s m args below meth c s₁ B hml hv
  obtain ⟨rfl, hsz, hP, hY, hD0⟩ := hv
  subst hsz
  have hD := hD0.self (sz := s.heap.size)
  generalize hAe : va_A (wMo G ad o r) s.heap.size = A at hD ⊢
  have hA : ∀ q : Nat, s.heap.size ≤ q → A q := fun q h => by rw [← hAe]; exact Or.inr h
  have hS : va_S A s.heap s.heap [] := va_S.rf
  have hx := B.exec
  have hb := B.bytes
  have hr := B.returns
  have hts := atoms_spec (ws := wsX7_groupItem) B.pre
  have hown : s.vm.findClass RX7 = some m.cls := findClass_of_methodNamed B.named
  have hlk := B.notSynchronized
  have CF : CallFix p m c cX7_groupItem 5 s _ wsX7_groupItem RX7 := ⟨hx, hb, hml, hown, hts⟩
  have hl := lv_entry ([.ref (ad o), .int st, .int g, .int sl]) (n := 5) (Nat.le_of_ble_eq_true rfl)
  rw [lg_entry_eq]
  generalize (lg_sl ([.ref (ad o), .int st, .int g, .int sl]) ++ List.replicate (5 - (lg_sl ([.ref (ad o), .int st, .int g, .int sl])).length) Slot.unset).toArray = ls at hl ⊢
  have hl : lv_has ls 5 [(0, .ref (ad o)), (1, .int st), (2, .int g), (3, .int sl)] := hl
  refine lv_aload_n hx hb dX7_groupItem_0 rfl (lv_at hl 0 rfl) ?_
  refine lv_iload_n hx hb dX7_groupItem_1 rfl (lv_at hl 1 rfl) ?_
  refine lv_iconst (v := 1) hx hb dX7_groupItem_2 (by decide) ?_
  refine lv_iload_n hx hb dX7_groupItem_3 rfl (lv_at hl 2 rfl) ?_
  refine wrV [] (wMo G ad o r) [] (wMo G ad o (1, r.2)) (As := [.int st, .int 1, .int g]) (rest := []) CF (kn_X7_noGroup l G ad o r st 1 g hk) (cwV 3 hts gX7_groupItem_X7_noGroup rfl rfl rfl (by decide +kernel) ⟨Nat.le_of_ble_eq_true rfl, Nat.le_of_ble_eq_true rfl⟩) hP hD hS hA hY rfl rfl (fst_Mo _ _ _ _ _) rfl hl.1 rfl (lv_room (Nat.le_of_ble_eq_true rfl)) dX7_groupItem_4 ⟨Nat.zero_le _, Nat.zero_le _⟩ (fun H locs hP hD hS => ?_)
  have hP : va_P G.1 vwCl (wMo G ad o (1, r.2.1, r.2.2.1, r.2.2.2.1, r.2.2.2.2.1, r.2.2.2.2.2.1, r.2.2.2.2.2.2.1, r.2.2.2.2.2.2.2.1, r.2.2.2.2.2.2.2.2.1, r.2.2.2.2.2.2.2.2.2.1, r.2.2.2.2.2.2.2.2.2.2.1, r.2.2.2.2.2.2.2.2.2.2.2.1, r.2.2.2.2.2.2.2.2.2.2.2.2)) H := hP
  have hD : va_D A (wMo G ad o (1, r.2.1, r.2.2.1, r.2.2.2.1, r.2.2.2.2.1, r.2.2.2.2.2.1, r.2.2.2.2.2.2.1, r.2.2.2.2.2.2.2.1, r.2.2.2.2.2.2.2.2.1, r.2.2.2.2.2.2.2.2.2.1, r.2.2.2.2.2.2.2.2.2.2.1, r.2.2.2.2.2.2.2.2.2.2.2.1, r.2.2.2.2.2.2.2.2.2.2.2.2)) := hD
  refine lv_if_eq (tgt := 12) hx hb dX7_groupItem_7 (by decide) (fun h7_1 => ?_) (fun h7_1 => ?_)
  · exact absurd h7_1 (by decide)
  · refine lv_iconst (v := 0) hx hb dX7_groupItem_10 (by decide) ?_
    exact wr_iret hx hb hr hlk hS hP (by first | with_reducible rfl | (simp only [sld_eq, h7_1, ↓reduceIte]; done)) (by first | with_reducible rfl | (simp only [sld_eq, h7_1, ↓reduceIte]; done)) dX7_groupItem_11
