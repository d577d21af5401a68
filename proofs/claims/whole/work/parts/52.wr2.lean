set_option maxHeartbeats 4000000 in
set_option maxRecDepth 100000 in
theorem k_L_distinctSize (l : Launch) (G : GT) (ad : Nat → Nat) (o : Nat) (sg : RRT) (st : Int32) (ou : Nat) (fo : Nat → Int64) (h0 : okA st 0 2) : Ca l yL_distinctSize wsL_distinctSize { frames := 8, cells := 1, slots := 6, locals := 143 } G ([(ou, .inl (G.2.2.2, 1, .inr (.inl fo)))] ++ (wRR G ad o sg)) ([(ou, .inl (G.2.2.2, 1, .inr (.inl (vp_updL fo (0 : Int32).toNatClampNeg ((rrDis sg st).2.1).toInt64))))] ++ (wRR G ad o (rrMD sg st))) [.ref (ad o), .int st, .ref ou] (some (.int 0)) := by
  intro sz
  refine met_ofWH (cc := cL_distinctSize) (maxL := 4) (ret := (some .int)) (hh := [(0, 9, 12, 13)]) (by decide) rfl ?_
  intro p e s m args below meth c s₁ B hml hv
  obtain ⟨rfl, hsz, hP, hY, hD0, hZ0⟩ := hv
  subst hsz
  have hD := hD0.self (sz := s.heap.size)
  generalize hAe : va_A ([(ou, .inl (G.2.2.2, 1, .inr (.inl fo)))] ++ (wRR G ad o sg)) s.heap.size = A at hD hZ0 ⊢
  have hZ : Zs A s s.heap := hZ0
  have hA : ∀ q : Nat, s.heap.size ≤ q → A q := fun q h => by rw [← hAe]; exact Or.inr h
  have hS : va_S A s.heap s.heap [] := va_S.rf
  have hx := B.exec
  have hb := B.bytes
  have hr := B.returns
  have hts := atoms_spec (ws := wsL_distinctSize) B.pre
  have hown : s.vm.findClass RL = some m.cls := findClass_of_methodNamed B.named
  have hlk := B.notSynchronized
  have CF : CallFix p m c cL_distinctSize 4 s _ wsL_distinctSize RL := ⟨hx, hb, hml, hown, hts⟩
  have hl := lv_entry ([.ref (ad o), .int st, .ref ou]) (n := 4) (Nat.le_of_ble_eq_true rfl)
  rw [lg_entry_eq]
  generalize (lg_sl ([.ref (ad o), .int st, .ref ou]) ++ List.replicate (4 - (lg_sl ([.ref (ad o), .int st, .ref ou])).length) Slot.unset).toArray = ls at hl ⊢
  have hl : lv_has ls 4 [(0, .ref (ad o)), (1, .int st), (2, .ref ou)] := hl
  refine lv_aload_n hx hb dL_distinctSize_0 rfl (lv_at hl 2 rfl) ?_
  refine lv_iconst (v := 0) hx hb dL_distinctSize_1 (by decide) ?_
  refine lv_aload_n hx hb dL_distinctSize_2 rfl (lv_at hl 0 rfl) ?_
  refine lv_iload_n hx hb dL_distinctSize_3 rfl (lv_at hl 1 rfl) ?_
  have hP9 := hP
  have hD9 := hD
  rw [← List.append_nil (wRR G ad o sg)] at hP9 hD9
  refine wrV [(ou, .inl (G.2.2.2, 1, .inr (.inl fo)))] (wRR G ad o sg) [] (wRR G ad o (rrMD sg st)) (As := [.int st]) (rest := [.int 0, .ref ou]) CF (k_X6_distinctSize l G ad o sg st h0) (cwV 1 hts gL_distinctSize_X6_distinctSize rfl rfl rfl (by decide +kernel) ⟨Nat.le_of_ble_eq_true rfl, Nat.le_of_ble_eq_true rfl⟩) hP9 hD9 hS hA hY rfl rfl (fst_RR _ _ _ _ _) rfl hl.1 rfl (lv_room (Nat.le_of_ble_eq_true rfl)) dL_distinctSize_4 ⟨Nat.zero_le _, Nat.zero_le _⟩ (fun H locs hP hD hS => ?_)
  rw [List.append_nil] at hP hD
  have hP : va_P G.1 vwCl ([(ou, .inl (G.2.2.2, 1, .inr (.inl fo)))] ++ (wRR G ad o (rrMD sg st))) H := hP
  have hD : va_D A ([(ou, .inl (G.2.2.2, 1, .inr (.inl fo)))] ++ (wRR G ad o (rrMD sg st))) := hD
  refine lv_i2l hx hb dL_distinctSize_7 rfl ?_
  refine va_last hx hb hY.1 hP hD hS 0 2 rfl rfl vp_0_1 dL_distinctSize_8 (fun H locs hP hD hS => ?_)
  have hP : va_P G.1 vwCl ([(ou, .inl (G.2.2.2, 1, .inr (.inl (vp_updL fo (0 : Int32).toNatClampNeg (((rrDis sg st).2.1).toInt64)))))] ++ (wRR G ad o (rrMD sg st))) H := hP
  have hD : va_D A ([(ou, .inl (G.2.2.2, 1, .inr (.inl (vp_updL fo (0 : Int32).toNatClampNeg (((rrDis sg st).2.1).toInt64)))))] ++ (wRR G ad o (rrMD sg st))) := hD
  refine lv_goto (tgt := 15) hx hb dL_distinctSize_9 (by decide) ?_
  refine lv_iconst (v := 0) hx hb dL_distinctSize_15 (by decide) ?_
  refine W.widen (k := 1) (n := 6) (Nat.zero_le _) (Nat.zero_le _) ?_
  exact ca_iret hx hb hr hlk hS hP (by first | with_reducible rfl | (simp only [sld_eq, ↓reduceIte]; done)) (by first | with_reducible rfl | (simp only [sld_eq, ↓reduceIte]; done)) dL_distinctSize_16

set_option maxHeartbeats 4000000 in
set_option maxRecDepth 100000 in
theorem k1_L_distinctSize (l : Launch) (hl0 : l.stackTraces = false) (G : GT) (ad : Nat → Nat) (o : Nat) (sg : RRT) (st : Int32) (ou : Nat) (fo : Nat → Int64) (hk : ¬ (okA st 0 2)) : Ca l yL_distinctSize wsL_distinctSize { frames := 8, cells := 1, slots := 6, locals := 143 } G ([(ou, .inl (G.2.2.2, 1, .inr (.inl fo)))] ++ (wRR G ad o sg)) ([(ou, .inl (G.2.2.2, 1, .inr (.inl fo)))] ++ (wRR G ad o sg)) [.ref (ad o), .int st, .ref ou] (some (.int 1)) := by
  intro sz
  refine met_ofWH (cc := cL_distinctSize) (maxL := 4) (ret := (some .int)) (hh := [(0, 9, 12, 13)]) (by decide) rfl ?_
  intro p e s m args below meth c s₁ B hml hv
  obtain ⟨rfl, hsz, hP, hY, hD0, hZ0⟩ := hv
  subst hsz
  have hD := hD0.self (sz := s.heap.size)
  generalize hAe : va_A ([(ou, .inl (G.2.2.2, 1, .inr (.inl fo)))] ++ (wRR G ad o sg)) s.heap.size = A at hD hZ0 ⊢
  have hZ : Zs A s s.heap := hZ0
  have hA : ∀ q : Nat, s.heap.size ≤ q → A q := fun q h => by rw [← hAe]; exact Or.inr h
  have hS : va_S A s.heap s.heap [] := va_S.rf
  have hx := B.exec
  have hb := B.bytes
  have hr := B.returns
  have hts := atoms_spec (ws := wsL_distinctSize) B.pre
  have hown : s.vm.findClass RL = some m.cls := findClass_of_methodNamed B.named
  have hlk := B.notSynchronized
  have CF : CallFix p m c cL_distinctSize 4 s _ wsL_distinctSize RL := ⟨hx, hb, hml, hown, hts⟩
  have kx0 := hts (.classLink RL 13 "java/lang/IllegalArgumentException") (List.mem_cons_of_mem _ (List.mem_append_left _ (List.mem_append_left _ (List.mem_append_left _ (List.mem_append_left _ (List.mem_append_left _ (List.mem_of_getElem? (i := 0) rfl)))))))
  have htab := vx_table (x := yL_distinctSize) B (hts (.codeWith yL_distinctSize cL_distinctSize 4 (some .int) [(0, 9, 12, 13)]) List.mem_cons_self)
  have hl := lv_entry ([.ref (ad o), .int st, .ref ou]) (n := 4) (Nat.le_of_ble_eq_true rfl)
  rw [lg_entry_eq]
  generalize (lg_sl ([.ref (ad o), .int st, .ref ou]) ++ List.replicate (4 - (lg_sl ([.ref (ad o), .int st, .ref ou])).length) Slot.unset).toArray = ls at hl ⊢
  have hl : lv_has ls 4 [(0, .ref (ad o)), (1, .int st), (2, .ref ou)] := hl
  refine lv_aload_n hx hb dL_distinctSize_0 rfl (lv_at hl 2 rfl) ?_
  refine lv_iconst (v := 0) hx hb dL_distinctSize_1 (by decide) ?_
  refine lv_aload_n hx hb dL_distinctSize_2 rfl (lv_at hl 0 rfl) ?_
  refine lv_iload_n hx hb dL_distinctSize_3 rfl (lv_at hl 1 rfl) ?_
  have hP9 := hP
  have hD9 := hD
  rw [← List.append_nil (wRR G ad o sg)] at hP9 hD9
  refine noV [(ou, .inl (G.2.2.2, 1, .inr (.inl fo)))] (wRR G ad o sg) [] (wRR G ad o sg) (As := [.int st]) (rest := [.int 0, .ref ou]) CF (kn_X6_distinctSize l hl0 G ad o sg st hk) (cwV 1 hts gL_distinctSize_X6_distinctSize rfl rfl rfl (by decide +kernel) ⟨Nat.le_of_ble_eq_true rfl, Nat.le_of_ble_eq_true rfl⟩) hP9 hD9 hS hA hY hZ rfl rfl (fst_RR _ _ _ _ _) rfl hl.1 rfl (lv_room (Nat.le_of_ble_eq_true rfl)) dL_distinctSize_4 ⟨Nat.le_of_ble_eq_true rfl, Nat.le_of_ble_eq_true rfl⟩ (fun ce q9 H locs hP hD hS hce hcv hcl => ?_)
  rw [List.append_nil] at hP hD
  have hP : va_P G.1 vwCl ([(ou, .inl (G.2.2.2, 1, .inr (.inl fo)))] ++ (wRR G ad o sg)) H := hP
  have hD : va_D A ([(ou, .inl (G.2.2.2, 1, .inr (.inl fo)))] ++ (wRR G ad o sg)) := hD
  refine vx_catch (own := RL) (name := "java/lang/IllegalArgumentException") hown [] ⟨0, 9, 12, 13⟩ [] htab (fun z hz => nomatch hz) rfl (by decide) kx0 (va_Nw.use rfl (hY.2.1 (.castable "java/lang/IllegalArgumentException" "java/lang/IllegalArgumentException") (List.mem_of_getElem? (i := 39) rfl))) hce hcv hcl ?_
  refine lv_astore_n (lv' := [(3, .ref q9), (0, .ref (ad o)), (1, .int st), (2, .ref ou)]) hx hb dL_distinctSize_12 rfl hl (by decide) rfl (fun ls hl => ?_)
  refine lv_iconst (v := 1) hx hb dL_distinctSize_13 (by decide) ?_
  exact ca_iret hx hb hr hlk hS hP (by first | with_reducible rfl | (simp only [sld_eq, ↓reduceIte]; done)) (by first | with_reducible rfl | (simp only [sld_eq, ↓reduceIte]; done)) dL_distinctSize_14

set_option maxHeartbeats 4000000 in
set_option maxRecDepth 100000 in
theorem k_L_distinctItem (l : Launch) (G : GT) (ad : Nat → Nat) (o : Nat) (sg : RRT) (st sl : Int32) (ou : Nat) (fo : Nat → Int64) (h0 : okA st 0 2) (hs : okP sl (rrDis sg st).2.1) : Ca l yL_distinctItem wsL_distinctItem { frames := 8, cells := 1, slots := 6, locals := 145 } G ([(ou, .inl (G.2.2.2, 1, .inr (.inl fo)))] ++ (wRR G ad o sg)) ([(ou, .inl (G.2.2.2, 1, .inr (.inl (vp_updL fo (0 : Int32).toNatClampNeg (at_ 16 (rrDis sg st).2.2.1 sl).toInt64))))] ++ (wRR G ad o (rrMD sg st))) [.ref (ad o), .int st, .int sl, .ref ou] (some (.int 0)) := by
  intro sz
  refine met_ofWH (cc := cL_distinctItem) (maxL := 5) (ret := (some .int)) (hh := [(0, 10, 13, 13), (0, 10, 17, 38)]) (by decide) rfl ?_
  intro p e s m args below meth c s₁ B hml hv
  obtain ⟨rfl, hsz, hP, hY, hD0, hZ0⟩ := hv
  subst hsz
  have hD := hD0.self (sz := s.heap.size)
  generalize hAe : va_A ([(ou, .inl (G.2.2.2, 1, .inr (.inl fo)))] ++ (wRR G ad o sg)) s.heap.size = A at hD hZ0 ⊢
  have hZ : Zs A s s.heap := hZ0
  have hA : ∀ q : Nat, s.heap.size ≤ q → A q := fun q h => by rw [← hAe]; exact Or.inr h
  have hS : va_S A s.heap s.heap [] := va_S.rf
  have hx := B.exec
  have hb := B.bytes
  have hr := B.returns
  have hts := atoms_spec (ws := wsL_distinctItem) B.pre
  have hown : s.vm.findClass RL = some m.cls := findClass_of_methodNamed B.named
  have hlk := B.notSynchronized
  have CF : CallFix p m c cL_distinctItem 5 s _ wsL_distinctItem RL := ⟨hx, hb, hml, hown, hts⟩
  have hl := lv_entry ([.ref (ad o), .int st, .int sl, .ref ou]) (n := 5) (Nat.le_of_ble_eq_true rfl)
  rw [lg_entry_eq]
  generalize (lg_sl ([.ref (ad o), .int st, .int sl, .ref ou]) ++ List.replicate (5 - (lg_sl ([.ref (ad o), .int st, .int sl, .ref ou])).length) Slot.unset).toArray = ls at hl ⊢
  have hl : lv_has ls 5 [(0, .ref (ad o)), (1, .int st), (2, .int sl), (3, .ref ou)] := hl
  refine lv_aload_n hx hb dL_distinctItem_0 rfl (lv_at hl 3 rfl) ?_
  refine lv_iconst (v := 0) hx hb dL_distinctItem_1 (by decide) ?_
  refine lv_aload_n hx hb dL_distinctItem_2 rfl (lv_at hl 0 rfl) ?_
  refine lv_iload_n hx hb dL_distinctItem_3 rfl (lv_at hl 1 rfl) ?_
  refine lv_iload_n hx hb dL_distinctItem_4 rfl (lv_at hl 2 rfl) ?_
  have hP9 := hP
  have hD9 := hD
  rw [← List.append_nil (wRR G ad o sg)] at hP9 hD9
  refine wrV [(ou, .inl (G.2.2.2, 1, .inr (.inl fo)))] (wRR G ad o sg) [] (wRR G ad o (rrMD sg st)) (As := [.int st, .int sl]) (rest := [.int 0, .ref ou]) CF (k_X6_distinctItem l G ad o sg st sl h0 hs) (cwV 2 hts gL_distinctItem_X6_distinctItem rfl rfl rfl (by decide +kernel) ⟨Nat.le_of_ble_eq_true rfl, Nat.le_of_ble_eq_true rfl⟩) hP9 hD9 hS hA hY rfl rfl (fst_RR _ _ _ _ _) rfl hl.1 rfl (lv_room (Nat.le_of_ble_eq_true rfl)) dL_distinctItem_5 ⟨Nat.zero_le _, Nat.zero_le _⟩ (fun H locs hP hD hS => ?_)
  rw [List.append_nil] at hP hD
  have hP : va_P G.1 vwCl ([(ou, .inl (G.2.2.2, 1, .inr (.inl fo)))] ++ (wRR G ad o (rrMD sg st))) H := hP
  have hD : va_D A ([(ou, .inl (G.2.2.2, 1, .inr (.inl fo)))] ++ (wRR G ad o (rrMD sg st))) := hD
  refine lv_i2l hx hb dL_distinctItem_8 rfl ?_
  refine va_last hx hb hY.1 hP hD hS 0 2 rfl rfl vp_0_1 dL_distinctItem_9 (fun H locs hP hD hS => ?_)
  have hP : va_P G.1 vwCl ([(ou, .inl (G.2.2.2, 1, .inr (.inl (vp_updL fo (0 : Int32).toNatClampNeg ((at_ 16 (rrDis sg st).2.2.1 sl).toInt64)))))] ++ (wRR G ad o (rrMD sg st))) H := hP
  have hD : va_D A ([(ou, .inl (G.2.2.2, 1, .inr (.inl (vp_updL fo (0 : Int32).toNatClampNeg ((at_ 16 (rrDis sg st).2.2.1 sl).toInt64)))))] ++ (wRR G ad o (rrMD sg st))) := hD
  refine lv_goto (tgt := 21) hx hb dL_distinctItem_10 (by decide) ?_
  refine lv_iconst (v := 0) hx hb dL_distinctItem_21 (by decide) ?_
  refine W.widen (k := 1) (n := 6) (Nat.zero_le _) (Nat.zero_le _) ?_
  exact ca_iret hx hb hr hlk hS hP (by first | with_reducible rfl | (simp only [sld_eq, ↓reduceIte]; done)) (by first | with_reducible rfl | (simp only [sld_eq, ↓reduceIte]; done)) dL_distinctItem_22

set_option maxHeartbeats 4000000 in
set_option maxRecDepth 100000 in
theorem k1_L_distinctItem (l : Launch) (hl0 : l.stackTraces = false) (G : GT) (ad : Nat → Nat) (o : Nat) (sg : RRT) (st sl : Int32) (ou : Nat) (fo : Nat → Int64) (hk : ¬ (okA st 0 2)) : Ca l yL_distinctItem wsL_distinctItem { frames := 8, cells := 1, slots := 6, locals := 145 } G ([(ou, .inl (G.2.2.2, 1, .inr (.inl fo)))] ++ (wRR G ad o sg)) ([(ou, .inl (G.2.2.2, 1, .inr (.inl fo)))] ++ (wRR G ad o sg)) [.ref (ad o), .int st, .int sl, .ref ou] (some (.int 1)) := by
  intro sz
  refine met_ofWH (cc := cL_distinctItem) (maxL := 5) (ret := (some .int)) (hh := [(0, 10, 13, 13), (0, 10, 17, 38)]) (by decide) rfl ?_
  intro p e s m args below meth c s₁ B hml hv
  obtain ⟨rfl, hsz, hP, hY, hD0, hZ0⟩ := hv
  subst hsz
  have hD := hD0.self (sz := s.heap.size)
  generalize hAe : va_A ([(ou, .inl (G.2.2.2, 1, .inr (.inl fo)))] ++ (wRR G ad o sg)) s.heap.size = A at hD hZ0 ⊢
  have hZ : Zs A s s.heap := hZ0
  have hA : ∀ q : Nat, s.heap.size ≤ q → A q := fun q h => by rw [← hAe]; exact Or.inr h
  have hS : va_S A s.heap s.heap [] := va_S.rf
  have hx := B.exec
  have hb := B.bytes
  have hr := B.returns
  have hts := atoms_spec (ws := wsL_distinctItem) B.pre
  have hown : s.vm.findClass RL = some m.cls := findClass_of_methodNamed B.named
  have hlk := B.notSynchronized
  have CF : CallFix p m c cL_distinctItem 5 s _ wsL_distinctItem RL := ⟨hx, hb, hml, hown, hts⟩
  have kx0 := hts (.classLink RL 13 "java/lang/IllegalArgumentException") (List.mem_cons_of_mem _ (List.mem_append_left _ (List.mem_append_left _ (List.mem_append_left _ (List.mem_append_left _ (List.mem_append_left _ (List.mem_append_left _ (List.mem_of_getElem? (i := 0) rfl))))))))
  have htab := vx_table (x := yL_distinctItem) B (hts (.codeWith yL_distinctItem cL_distinctItem 5 (some .int) [(0, 10, 13, 13), (0, 10, 17, 38)]) List.mem_cons_self)
  have hl := lv_entry ([.ref (ad o), .int st, .int sl, .ref ou]) (n := 5) (Nat.le_of_ble_eq_true rfl)
  rw [lg_entry_eq]
  generalize (lg_sl ([.ref (ad o), .int st, .int sl, .ref ou]) ++ List.replicate (5 - (lg_sl ([.ref (ad o), .int st, .int sl, .ref ou])).length) Slot.unset).toArray = ls at hl ⊢
  have hl : lv_has ls 5 [(0, .ref (ad o)), (1, .int st), (2, .int sl), (3, .ref ou)] := hl
  refine lv_aload_n hx hb dL_distinctItem_0 rfl (lv_at hl 3 rfl) ?_
  refine lv_iconst (v := 0) hx hb dL_distinctItem_1 (by decide) ?_
  refine lv_aload_n hx hb dL_distinctItem_2 rfl (lv_at hl 0 rfl) ?_
  refine lv_iload_n hx hb dL_distinctItem_3 rfl (lv_at hl 1 rfl) ?_
  refine lv_iload_n hx hb dL_distinctItem_4 rfl (lv_at hl 2 rfl) ?_
  have hP9 := hP
  have hD9 := hD
  rw [← List.append_nil (wRR G ad o sg)] at hP9 hD9
  refine noV [(ou, .inl (G.2.2.2, 1, .inr (.inl fo)))] (wRR G ad o sg) [] (wRR G ad o sg) (As := [.int st, .int sl]) (rest := [.int 0, .ref ou]) CF (kn_X6_distinctItem l hl0 G ad o sg st sl hk) (cwV 2 hts gL_distinctItem_X6_distinctItem rfl rfl rfl (by decide +kernel) ⟨Nat.le_of_ble_eq_true rfl, Nat.le_of_ble_eq_true rfl⟩) hP9 hD9 hS hA hY hZ rfl rfl (fst_RR _ _ _ _ _) rfl hl.1 rfl (lv_room (Nat.le_of_ble_eq_true rfl)) dL_distinctItem_5 ⟨Nat.le_of_ble_eq_true rfl, Nat.le_of_ble_eq_true rfl⟩ (fun ce q9 H locs hP hD hS hce hcv hcl => ?_)
  rw [List.append_nil] at hP hD
  have hP : va_P G.1 vwCl ([(ou, .inl (G.2.2.2, 1, .inr (.inl fo)))] ++ (wRR G ad o sg)) H := hP
  have hD : va_D A ([(ou, .inl (G.2.2.2, 1, .inr (.inl fo)))] ++ (wRR G ad o sg)) := hD
  refine vx_catch (own := RL) (name := "java/lang/IllegalArgumentException") hown [] ⟨0, 10, 13, 13⟩ [⟨0, 10, 17, 38⟩] htab (fun z hz => nomatch hz) rfl (by decide) kx0 (va_Nw.use rfl (hY.2.1 (.castable "java/lang/IllegalArgumentException" "java/lang/IllegalArgumentException") (List.mem_of_getElem? (i := 39) rfl))) hce hcv hcl ?_
  refine lv_astore (lv' := [(4, .ref q9), (0, .ref (ad o)), (1, .int st), (2, .int sl), (3, .ref ou)]) hx hb dL_distinctItem_13 hl (by decide) rfl (fun ls hl => ?_)
  refine lv_iconst (v := 1) hx hb dL_distinctItem_15 (by decide) ?_
  exact ca_iret hx hb hr hlk hS hP (by first | with_reducible rfl | (simp only [sld_eq, ↓reduceIte]; done)) (by first | with_reducible rfl | (simp only [sld_eq, ↓reduceIte]; done)) dL_distinctItem_16

set_option maxHeartbeats 4000000 in
set_option maxRecDepth 100000 in
theorem k2_L_distinctItem (l : Launch) (hl0 : l.stackTraces = false) (G : GT) (ad : Nat → Nat) (o : Nat) (sg : RRT) (st sl : Int32) (ou : Nat) (fo : Nat → Int64) (h0 : okA st 0 2) (hs : ¬ okP sl (rrDis sg st).2.1) : Ca l yL_distinctItem wsL_distinctItem { frames := 8, cells := 1, slots := 6, locals := 145 } G ([(ou, .inl (G.2.2.2, 1, .inr (.inl fo)))] ++ (wRR G ad o sg)) ([(ou, .inl (G.2.2.2, 1, .inr (.inl fo)))] ++ (wRR G ad o (rrMD sg st))) [.ref (ad o), .int st, .int sl, .ref ou] (some (.int 2)) := by
  intro sz
  refine met_ofWH (cc := cL_distinctItem) (maxL := 5) (ret := (some .int)) (hh := [(0, 10, 13, 13), (0, 10, 17, 38)]) (by decide) rfl ?_
  intro p e s m args below meth c s₁ B hml hv
  obtain ⟨rfl, hsz, hP, hY, hD0, hZ0⟩ := hv
  subst hsz
  have hD := hD0.self (sz := s.heap.size)
  generalize hAe : va_A ([(ou, .inl (G.2.2.2, 1, .inr (.inl fo)))] ++ (wRR G ad o sg)) s.heap.size = A at hD hZ0 ⊢
  have hZ : Zs A s s.heap := hZ0
  have hA : ∀ q : Nat, s.heap.size ≤ q → A q := fun q h => by rw [← hAe]; exact Or.inr h
  have hS : va_S A s.heap s.heap [] := va_S.rf
  have hx := B.exec
  have hb := B.bytes
  have hr := B.returns
  have hts := atoms_spec (ws := wsL_distinctItem) B.pre
  have hown : s.vm.findClass RL = some m.cls := findClass_of_methodNamed B.named
  have hlk := B.notSynchronized
  have CF : CallFix p m c cL_distinctItem 5 s _ wsL_distinctItem RL := ⟨hx, hb, hml, hown, hts⟩
  have kx1 := hts (.classLink RL 38 "java/lang/IndexOutOfBoundsException") (List.mem_cons_of_mem _ (List.mem_append_left _ (List.mem_append_left _ (List.mem_append_left _ (List.mem_append_left _ (List.mem_append_left _ (List.mem_append_left _ (List.mem_of_getElem? (i := 1) rfl))))))))
  have kx0 := hts (.classLink RL 13 "java/lang/IllegalArgumentException") (List.mem_cons_of_mem _ (List.mem_append_left _ (List.mem_append_left _ (List.mem_append_left _ (List.mem_append_left _ (List.mem_append_left _ (List.mem_append_left _ (List.mem_of_getElem? (i := 0) rfl))))))))
  have htab := vx_table (x := yL_distinctItem) B (hts (.codeWith yL_distinctItem cL_distinctItem 5 (some .int) [(0, 10, 13, 13), (0, 10, 17, 38)]) List.mem_cons_self)
  have hl := lv_entry ([.ref (ad o), .int st, .int sl, .ref ou]) (n := 5) (Nat.le_of_ble_eq_true rfl)
  rw [lg_entry_eq]
  generalize (lg_sl ([.ref (ad o), .int st, .int sl, .ref ou]) ++ List.replicate (5 - (lg_sl ([.ref (ad o), .int st, .int sl, .ref ou])).length) Slot.unset).toArray = ls at hl ⊢
  have hl : lv_has ls 5 [(0, .ref (ad o)), (1, .int st), (2, .int sl), (3, .ref ou)] := hl
  refine lv_aload_n hx hb dL_distinctItem_0 rfl (lv_at hl 3 rfl) ?_
  refine lv_iconst (v := 0) hx hb dL_distinctItem_1 (by decide) ?_
  refine lv_aload_n hx hb dL_distinctItem_2 rfl (lv_at hl 0 rfl) ?_
  refine lv_iload_n hx hb dL_distinctItem_3 rfl (lv_at hl 1 rfl) ?_
  refine lv_iload_n hx hb dL_distinctItem_4 rfl (lv_at hl 2 rfl) ?_
  have hP9 := hP
  have hD9 := hD
  rw [← List.append_nil (wRR G ad o sg)] at hP9 hD9
  refine noV [(ou, .inl (G.2.2.2, 1, .inr (.inl fo)))] (wRR G ad o sg) [] (wRR G ad o (rrMD sg st)) (As := [.int st, .int sl]) (rest := [.int 0, .ref ou]) CF (kn2_X6_distinctItem l hl0 G ad o sg st sl h0 hs) (cwV 2 hts gL_distinctItem_X6_distinctItem rfl rfl rfl (by decide +kernel) ⟨Nat.le_of_ble_eq_true rfl, Nat.le_of_ble_eq_true rfl⟩) hP9 hD9 hS hA hY hZ rfl rfl (fst_RR _ _ _ _ _) rfl hl.1 rfl (lv_room (Nat.le_of_ble_eq_true rfl)) dL_distinctItem_5 ⟨Nat.le_of_ble_eq_true rfl, Nat.le_of_ble_eq_true rfl⟩ (fun ce q9 H locs hP hD hS hce hcv hcl => ?_)
  rw [List.append_nil] at hP hD
  have hP : va_P G.1 vwCl ([(ou, .inl (G.2.2.2, 1, .inr (.inl fo)))] ++ (wRR G ad o (rrMD sg st))) H := hP
  have hD : va_D A ([(ou, .inl (G.2.2.2, 1, .inr (.inl fo)))] ++ (wRR G ad o (rrMD sg st))) := hD
  refine vx_catch (own := RL) (name := "java/lang/IndexOutOfBoundsException") hown [⟨0, 10, 13, 13⟩] ⟨0, 10, 17, 38⟩ [] htab (fun z hz => by rcases List.mem_singleton.mp hz with rfl; exact Or.inr ⟨by decide, _, kx0, hY.2.2.1 ("java/lang/IndexOutOfBoundsException", "java/lang/IllegalArgumentException") (List.mem_of_getElem? (i := 1) rfl)⟩) rfl (by decide) kx1 (va_Nw.use rfl (hY.2.1 (.castable "java/lang/IndexOutOfBoundsException" "java/lang/IndexOutOfBoundsException") (List.mem_of_getElem? (i := 41) rfl))) hce hcv hcl ?_
  refine lv_astore (lv' := [(4, .ref q9), (0, .ref (ad o)), (1, .int st), (2, .int sl), (3, .ref ou)]) hx hb dL_distinctItem_17 hl (by decide) rfl (fun ls hl => ?_)
  refine lv_iconst (v := 2) hx hb dL_distinctItem_19 (by decide) ?_
  exact ca_iret hx hb hr hlk hS hP (by first | with_reducible rfl | (simp only [sld_eq, ↓reduceIte]; done)) (by first | with_reducible rfl | (simp only [sld_eq, ↓reduceIte]; done)) dL_distinctItem_20

set_option maxHeartbeats 4000000 in
set_option maxRecDepth 100000 in
theorem k_L_distinctOffers (l : Launch) (G : GT) (ad : Nat → Nat) (o : Nat) (sg : RRT) (st sl : Int32) (ou : Nat) (fo : Nat → Int64) (h0 : okA st 0 2) (hs : okP sl (rrDis sg st).2.1) : Ca l yL_distinctOffers wsL_distinctOffers { frames := 8, cells := 1, slots := 6, locals := 145 } G ([(ou, .inl (G.2.2.2, 1, .inr (.inl fo)))] ++ (wRR G ad o sg)) ([(ou, .inl (G.2.2.2, 1, .inr (.inl (vp_updL fo (0 : Int32).toNatClampNeg (at_ 16 (rrDis sg st).2.2.2 sl).toInt64))))] ++ (wRR G ad o (rrMD sg st))) [.ref (ad o), .int st, .int sl, .ref ou] (some (.int 0)) := by
  intro sz
  refine met_ofWH (cc := cL_distinctOffers) (maxL := 5) (ret := (some .int)) (hh := [(0, 10, 13, 13), (0, 10, 17, 38)]) (by decide) rfl ?_
  intro p e s m args below meth c s₁ B hml hv
  obtain ⟨rfl, hsz, hP, hY, hD0, hZ0⟩ := hv
  subst hsz
  have hD := hD0.self (sz := s.heap.size)
  generalize hAe : va_A ([(ou, .inl (G.2.2.2, 1, .inr (.inl fo)))] ++ (wRR G ad o sg)) s.heap.size = A at hD hZ0 ⊢
  have hZ : Zs A s s.heap := hZ0
  have hA : ∀ q : Nat, s.heap.size ≤ q → A q := fun q h => by rw [← hAe]; exact Or.inr h
  have hS : va_S A s.heap s.heap [] := va_S.rf
  have hx := B.exec
  have hb := B.bytes
  have hr := B.returns
  have hts := atoms_spec (ws := wsL_distinctOffers) B.pre
  have hown : s.vm.findClass RL = some m.cls := findClass_of_methodNamed B.named
  have hlk := B.notSynchronized
  have CF : CallFix p m c cL_distinctOffers 5 s _ wsL_distinctOffers RL := ⟨hx, hb, hml, hown, hts⟩
  have hl := lv_entry ([.ref (ad o), .int st, .int sl, .ref ou]) (n := 5) (Nat.le_of_ble_eq_true rfl)
  rw [lg_entry_eq]
  generalize (lg_sl ([.ref (ad o), .int st, .int sl, .ref ou]) ++ List.replicate (5 - (lg_sl ([.ref (ad o), .int st, .int sl, .ref ou])).length) Slot.unset).toArray = ls at hl ⊢
  have hl : lv_has ls 5 [(0, .ref (ad o)), (1, .int st), (2, .int sl), (3, .ref ou)] := hl
  refine lv_aload_n hx hb dL_distinctOffers_0 rfl (lv_at hl 3 rfl) ?_
  refine lv_iconst (v := 0) hx hb dL_distinctOffers_1 (by decide) ?_
  refine lv_aload_n hx hb dL_distinctOffers_2 rfl (lv_at hl 0 rfl) ?_
  refine lv_iload_n hx hb dL_distinctOffers_3 rfl (lv_at hl 1 rfl) ?_
  refine lv_iload_n hx hb dL_distinctOffers_4 rfl (lv_at hl 2 rfl) ?_
  have hP9 := hP
  have hD9 := hD
  rw [← List.append_nil (wRR G ad o sg)] at hP9 hD9
  refine wrV [(ou, .inl (G.2.2.2, 1, .inr (.inl fo)))] (wRR G ad o sg) [] (wRR G ad o (rrMD sg st)) (As := [.int st, .int sl]) (rest := [.int 0, .ref ou]) CF (k_X6_distinctOffers l G ad o sg st sl h0 hs) (cwV 2 hts gL_distinctOffers_X6_distinctOffers rfl rfl rfl (by decide +kernel) ⟨Nat.le_of_ble_eq_true rfl, Nat.le_of_ble_eq_true rfl⟩) hP9 hD9 hS hA hY rfl rfl (fst_RR _ _ _ _ _) rfl hl.1 rfl (lv_room (Nat.le_of_ble_eq_true rfl)) dL_distinctOffers_5 ⟨Nat.zero_le _, Nat.zero_le _⟩ (fun H locs hP hD hS => ?_)
  rw [List.append_nil] at hP hD
  have hP : va_P G.1 vwCl ([(ou, .inl (G.2.2.2, 1, .inr (.inl fo)))] ++ (wRR G ad o (rrMD sg st))) H := hP
  have hD : va_D A ([(ou, .inl (G.2.2.2, 1, .inr (.inl fo)))] ++ (wRR G ad o (rrMD sg st))) := hD
  refine lv_i2l hx hb dL_distinctOffers_8 rfl ?_
  refine va_last hx hb hY.1 hP hD hS 0 2 rfl rfl vp_0_1 dL_distinctOffers_9 (fun H locs hP hD hS => ?_)
  have hP : va_P G.1 vwCl ([(ou, .inl (G.2.2.2, 1, .inr (.inl (vp_updL fo (0 : Int32).toNatClampNeg ((at_ 16 (rrDis sg st).2.2.2 sl).toInt64)))))] ++ (wRR G ad o (rrMD sg st))) H := hP
  have hD : va_D A ([(ou, .inl (G.2.2.2, 1, .inr (.inl (vp_updL fo (0 : Int32).toNatClampNeg ((at_ 16 (rrDis sg st).2.2.2 sl).toInt64)))))] ++ (wRR G ad o (rrMD sg st))) := hD
  refine lv_goto (tgt := 21) hx hb dL_distinctOffers_10 (by decide) ?_
  refine lv_iconst (v := 0) hx hb dL_distinctOffers_21 (by decide) ?_
  refine W.widen (k := 1) (n := 6) (Nat.zero_le _) (Nat.zero_le _) ?_
  exact ca_iret hx hb hr hlk hS hP (by first | with_reducible rfl | (simp only [sld_eq, ↓reduceIte]; done)) (by first | with_reducible rfl | (simp only [sld_eq, ↓reduceIte]; done)) dL_distinctOffers_22

set_option maxHeartbeats 4000000 in
set_option maxRecDepth 100000 in
theorem k1_L_distinctOffers (l : Launch) (hl0 : l.stackTraces = false) (G : GT) (ad : Nat → Nat) (o : Nat) (sg : RRT) (st sl : Int32) (ou : Nat) (fo : Nat → Int64) (hk : ¬ (okA st 0 2)) : Ca l yL_distinctOffers wsL_distinctOffers { frames := 8, cells := 1, slots := 6, locals := 145 } G ([(ou, .inl (G.2.2.2, 1, .inr (.inl fo)))] ++ (wRR G ad o sg)) ([(ou, .inl (G.2.2.2, 1, .inr (.inl fo)))] ++ (wRR G ad o sg)) [.ref (ad o), .int st, .int sl, .ref ou] (some (.int 1)) := by
  intro sz
  refine met_ofWH (cc := cL_distinctOffers) (maxL := 5) (ret := (some .int)) (hh := [(0, 10, 13, 13), (0, 10, 17, 38)]) (by decide) rfl ?_
  intro p e s m args below meth c s₁ B hml hv
  obtain ⟨rfl, hsz, hP, hY, hD0, hZ0⟩ := hv
  subst hsz
  have hD := hD0.self (sz := s.heap.size)
  generalize hAe : va_A ([(ou, .inl (G.2.2.2, 1, .inr (.inl fo)))] ++ (wRR G ad o sg)) s.heap.size = A at hD hZ0 ⊢
  have hZ : Zs A s s.heap := hZ0
  have hA : ∀ q : Nat, s.heap.size ≤ q → A q := fun q h => by rw [← hAe]; exact Or.inr h
  have hS : va_S A s.heap s.heap [] := va_S.rf
  have hx := B.exec
  have hb := B.bytes
  have hr := B.returns
  have hts := atoms_spec (ws := wsL_distinctOffers) B.pre
  have hown : s.vm.findClass RL = some m.cls := findClass_of_methodNamed B.named
  have hlk := B.notSynchronized
  have CF : CallFix p m c cL_distinctOffers 5 s _ wsL_distinctOffers RL := ⟨hx, hb, hml, hown, hts⟩
  have kx0 := hts (.classLink RL 13 "java/lang/IllegalArgumentException") (List.mem_cons_of_mem _ (List.mem_append_left _ (List.mem_append_left _ (List.mem_append_left _ (List.mem_append_left _ (List.mem_append_left _ (List.mem_append_left _ (List.mem_of_getElem? (i := 0) rfl))))))))
  have htab := vx_table (x := yL_distinctOffers) B (hts (.codeWith yL_distinctOffers cL_distinctOffers 5 (some .int) [(0, 10, 13, 13), (0, 10, 17, 38)]) List.mem_cons_self)
  have hl := lv_entry ([.ref (ad o), .int st, .int sl, .ref ou]) (n := 5) (Nat.le_of_ble_eq_true rfl)
  rw [lg_entry_eq]
  generalize (lg_sl ([.ref (ad o), .int st, .int sl, .ref ou]) ++ List.replicate (5 - (lg_sl ([.ref (ad o), .int st, .int sl, .ref ou])).length) Slot.unset).toArray = ls at hl ⊢
  have hl : lv_has ls 5 [(0, .ref (ad o)), (1, .int st), (2, .int sl), (3, .ref ou)] := hl
  refine lv_aload_n hx hb dL_distinctOffers_0 rfl (lv_at hl 3 rfl) ?_
  refine lv_iconst (v := 0) hx hb dL_distinctOffers_1 (by decide) ?_
  refine lv_aload_n hx hb dL_distinctOffers_2 rfl (lv_at hl 0 rfl) ?_
  refine lv_iload_n hx hb dL_distinctOffers_3 rfl (lv_at hl 1 rfl) ?_
  refine lv_iload_n hx hb dL_distinctOffers_4 rfl (lv_at hl 2 rfl) ?_
  have hP9 := hP
  have hD9 := hD
  rw [← List.append_nil (wRR G ad o sg)] at hP9 hD9
  refine noV [(ou, .inl (G.2.2.2, 1, .inr (.inl fo)))] (wRR G ad o sg) [] (wRR G ad o sg) (As := [.int st, .int sl]) (rest := [.int 0, .ref ou]) CF (kn_X6_distinctOffers l hl0 G ad o sg st sl hk) (cwV 2 hts gL_distinctOffers_X6_distinctOffers rfl rfl rfl (by decide +kernel) ⟨Nat.le_of_ble_eq_true rfl, Nat.le_of_ble_eq_true rfl⟩) hP9 hD9 hS hA hY hZ rfl rfl (fst_RR _ _ _ _ _) rfl hl.1 rfl (lv_room (Nat.le_of_ble_eq_true rfl)) dL_distinctOffers_5 ⟨Nat.le_of_ble_eq_true rfl, Nat.le_of_ble_eq_true rfl⟩ (fun ce q9 H locs hP hD hS hce hcv hcl => ?_)
  rw [List.append_nil] at hP hD
  have hP : va_P G.1 vwCl ([(ou, .inl (G.2.2.2, 1, .inr (.inl fo)))] ++ (wRR G ad o sg)) H := hP
  have hD : va_D A ([(ou, .inl (G.2.2.2, 1, .inr (.inl fo)))] ++ (wRR G ad o sg)) := hD
  refine vx_catch (own := RL) (name := "java/lang/IllegalArgumentException") hown [] ⟨0, 10, 13, 13⟩ [⟨0, 10, 17, 38⟩] htab (fun z hz => nomatch hz) rfl (by decide) kx0 (va_Nw.use rfl (hY.2.1 (.castable "java/lang/IllegalArgumentException" "java/lang/IllegalArgumentException") (List.mem_of_getElem? (i := 39) rfl))) hce hcv hcl ?_
  refine lv_astore (lv' := [(4, .ref q9), (0, .ref (ad o)), (1, .int st), (2, .int sl), (3, .ref ou)]) hx hb dL_distinctOffers_13 hl (by decide) rfl (fun ls hl => ?_)
  refine lv_iconst (v := 1) hx hb dL_distinctOffers_15 (by decide) ?_
  exact ca_iret hx hb hr hlk hS hP (by first | with_reducible rfl | (simp only [sld_eq, ↓reduceIte]; done)) (by first | with_reducible rfl | (simp only [sld_eq, ↓reduceIte]; done)) dL_distinctOffers_16

set_option maxHeartbeats 4000000 in
set_option maxRecDepth 100000 in
theorem k2_L_distinctOffers (l : Launch) (hl0 : l.stackTraces = false) (G : GT) (ad : Nat → Nat) (o : Nat) (sg : RRT) (st sl : Int32) (ou : Nat) (fo : Nat → Int64) (h0 : okA st 0 2) (hs : ¬ okP sl (rrDis sg st).2.1) : Ca l yL_distinctOffers wsL_distinctOffers { frames := 8, cells := 1, slots := 6, locals := 145 } G ([(ou, .inl (G.2.2.2, 1, .inr (.inl fo)))] ++ (wRR G ad o sg)) ([(ou, .inl (G.2.2.2, 1, .inr (.inl fo)))] ++ (wRR G ad o (rrMD sg st))) [.ref (ad o), .int st, .int sl, .ref ou] (some (.int 2)) := by
  intro sz
  refine met_ofWH (cc := cL_distinctOffers) (maxL := 5) (ret := (some .int)) (hh := [(0, 10, 13, 13), (0, 10, 17, 38)]) (by decide) rfl ?_
  intro p e s m args below meth c s₁ B hml hv
  obtain ⟨rfl, hsz, hP, hY, hD0, hZ0⟩ := hv
  subst hsz
  have hD := hD0.self (sz := s.heap.size)
  generalize hAe : va_A ([(ou, .inl (G.2.2.2, 1, .inr (.inl fo)))] ++ (wRR G ad o sg)) s.heap.size = A at hD hZ0 ⊢
  have hZ : Zs A s s.heap := hZ0
  have hA : ∀ q : Nat, s.heap.size ≤ q → A q := fun q h => by rw [← hAe]; exact Or.inr h
  have hS : va_S A s.heap s.heap [] := va_S.rf
  have hx := B.exec
  have hb := B.bytes
  have hr := B.returns
  have hts := atoms_spec (ws := wsL_distinctOffers) B.pre
  have hown : s.vm.findClass RL = some m.cls := findClass_of_methodNamed B.named
  have hlk := B.notSynchronized
  have CF : CallFix p m c cL_distinctOffers 5 s _ wsL_distinctOffers RL := ⟨hx, hb, hml, hown, hts⟩
  have kx1 := hts (.classLink RL 38 "java/lang/IndexOutOfBoundsException") (List.mem_cons_of_mem _ (List.mem_append_left _ (List.mem_append_left _ (List.mem_append_left _ (List.mem_append_left _ (List.mem_append_left _ (List.mem_append_left _ (List.mem_of_getElem? (i := 1) rfl))))))))
  have kx0 := hts (.classLink RL 13 "java/lang/IllegalArgumentException") (List.mem_cons_of_mem _ (List.mem_append_left _ (List.mem_append_left _ (List.mem_append_left _ (List.mem_append_left _ (List.mem_append_left _ (List.mem_append_left _ (List.mem_of_getElem? (i := 0) rfl))))))))
  have htab := vx_table (x := yL_distinctOffers) B (hts (.codeWith yL_distinctOffers cL_distinctOffers 5 (some .int) [(0, 10, 13, 13), (0, 10, 17, 38)]) List.mem_cons_self)
  have hl := lv_entry ([.ref (ad o), .int st, .int sl, .ref ou]) (n := 5) (Nat.le_of_ble_eq_true rfl)
  rw [lg_entry_eq]
  generalize (lg_sl ([.ref (ad o), .int st, .int sl, .ref ou]) ++ List.replicate (5 - (lg_sl ([.ref (ad o), .int st, .int sl, .ref ou])).length) Slot.unset).toArray = ls at hl ⊢
  have hl : lv_has ls 5 [(0, .ref (ad o)), (1, .int st), (2, .int sl), (3, .ref ou)] := hl
  refine lv_aload_n hx hb dL_distinctOffers_0 rfl (lv_at hl 3 rfl) ?_
  refine lv_iconst (v := 0) hx hb dL_distinctOffers_1 (by decide) ?_
  refine lv_aload_n hx hb dL_distinctOffers_2 rfl (lv_at hl 0 rfl) ?_
  refine lv_iload_n hx hb dL_distinctOffers_3 rfl (lv_at hl 1 rfl) ?_
  refine lv_iload_n hx hb dL_distinctOffers_4 rfl (lv_at hl 2 rfl) ?_
  have hP9 := hP
  have hD9 := hD
  rw [← List.append_nil (wRR G ad o sg)] at hP9 hD9
  refine noV [(ou, .inl (G.2.2.2, 1, .inr (.inl fo)))] (wRR G ad o sg) [] (wRR G ad o (rrMD sg st)) (As := [.int st, .int sl]) (rest := [.int 0, .ref ou]) CF (kn2_X6_distinctOffers l hl0 G ad o sg st sl h0 hs) (cwV 2 hts gL_distinctOffers_X6_distinctOffers rfl rfl rfl (by decide +kernel) ⟨Nat.le_of_ble_eq_true rfl, Nat.le_of_ble_eq_true rfl⟩) hP9 hD9 hS hA hY hZ rfl rfl (fst_RR _ _ _ _ _) rfl hl.1 rfl (lv_room (Nat.le_of_ble_eq_true rfl)) dL_distinctOffers_5 ⟨Nat.le_of_ble_eq_true rfl, Nat.le_of_ble_eq_true rfl⟩ (fun ce q9 H locs hP hD hS hce hcv hcl => ?_)
  rw [List.append_nil] at hP hD
  have hP : va_P G.1 vwCl ([(ou, .inl (G.2.2.2, 1, .inr (.inl fo)))] ++ (wRR G ad o (rrMD sg st))) H := hP
  have hD : va_D A ([(ou, .inl (G.2.2.2, 1, .inr (.inl fo)))] ++ (wRR G ad o (rrMD sg st))) := hD
  refine vx_catch (own := RL) (name := "java/lang/IndexOutOfBoundsException") hown [⟨0, 10, 13, 13⟩] ⟨0, 10, 17, 38⟩ [] htab (fun z hz => by rcases List.mem_singleton.mp hz with rfl; exact Or.inr ⟨by decide, _, kx0, hY.2.2.1 ("java/lang/IndexOutOfBoundsException", "java/lang/IllegalArgumentException") (List.mem_of_getElem? (i := 1) rfl)⟩) rfl (by decide) kx1 (va_Nw.use rfl (hY.2.1 (.castable "java/lang/IndexOutOfBoundsException" "java/lang/IndexOutOfBoundsException") (List.mem_of_getElem? (i := 41) rfl))) hce hcv hcl ?_
  refine lv_astore (lv' := [(4, .ref q9), (0, .ref (ad o)), (1, .int st), (2, .int sl), (3, .ref ou)]) hx hb dL_distinctOffers_17 hl (by decide) rfl (fun ls hl => ?_)
  refine lv_iconst (v := 2) hx hb dL_distinctOffers_19 (by decide) ?_
  exact ca_iret hx hb hr hlk hS hP (by first | with_reducible rfl | (simp only [sld_eq, ↓reduceIte]; done)) (by first | with_reducible rfl | (simp only [sld_eq, ↓reduceIte]; done)) dL_distinctOffers_20

set_option maxHeartbeats 4000000 in
set_option maxRecDepth 100000 in
theorem k_L_distinctEstimate (l : Launch) (G : GT) (ad : Nat → Nat) (o : Nat) (sg : RRT) (st : Int32) (ou : Nat) (fo : Nat → Int64) (h0 : okA st 0 2) : Ca l yL_distinctEstimate wsL_distinctEstimate { frames := 8, cells := 1, slots := 6, locals := 143 } G ([(ou, .inl (G.2.2.2, 1, .inr (.inl fo)))] ++ (wRR G ad o sg)) ([(ou, .inl (G.2.2.2, 1, .inr (.inl (vp_updL fo (0 : Int32).toNatClampNeg (disEst (rrDis sg st))))))] ++ (wRR G ad o (rrMD sg st))) [.ref (ad o), .int st, .ref ou] (some (.int 0)) := by
  intro sz
  refine met_ofWH (cc := cL_distinctEstimate) (maxL := 4) (ret := (some .int)) (hh := [(0, 8, 11, 13)]) (by decide) rfl ?_
  intro p e s m args below meth c s₁ B hml hv
  obtain ⟨rfl, hsz, hP, hY, hD0, hZ0⟩ := hv
  subst hsz
  have hD := hD0.self (sz := s.heap.size)
  generalize hAe : va_A ([(ou, .inl (G.2.2.2, 1, .inr (.inl fo)))] ++ (wRR G ad o sg)) s.heap.size = A at hD hZ0 ⊢
  have hZ : Zs A s s.heap := hZ0
  have hA : ∀ q : Nat, s.heap.size ≤ q → A q := fun q h => by rw [← hAe]; exact Or.inr h
  have hS : va_S A s.heap s.heap [] := va_S.rf
  have hx := B.exec
  have hb := B.bytes
  have hr := B.returns
  have hts := atoms_spec (ws := wsL_distinctEstimate) B.pre
  have hown : s.vm.findClass RL = some m.cls := findClass_of_methodNamed B.named
  have hlk := B.notSynchronized
  have CF : CallFix p m c cL_distinctEstimate 4 s _ wsL_distinctEstimate RL := ⟨hx, hb, hml, hown, hts⟩
  have hl := lv_entry ([.ref (ad o), .int st, .ref ou]) (n := 4) (Nat.le_of_ble_eq_true rfl)
  rw [lg_entry_eq]
  generalize (lg_sl ([.ref (ad o), .int st, .ref ou]) ++ List.replicate (4 - (lg_sl ([.ref (ad o), .int st, .ref ou])).length) Slot.unset).toArray = ls at hl ⊢
  have hl : lv_has ls 4 [(0, .ref (ad o)), (1, .int st), (2, .ref ou)] := hl
  refine lv_aload_n hx hb dL_distinctEstimate_0 rfl (lv_at hl 2 rfl) ?_
  refine lv_iconst (v := 0) hx hb dL_distinctEstimate_1 (by decide) ?_
  refine lv_aload_n hx hb dL_distinctEstimate_2 rfl (lv_at hl 0 rfl) ?_
  refine lv_iload_n hx hb dL_distinctEstimate_3 rfl (lv_at hl 1 rfl) ?_
  have hP9 := hP
  have hD9 := hD
  rw [← List.append_nil (wRR G ad o sg)] at hP9 hD9
  refine wrV [(ou, .inl (G.2.2.2, 1, .inr (.inl fo)))] (wRR G ad o sg) [] (wRR G ad o (rrMD sg st)) (As := [.int st]) (rest := [.int 0, .ref ou]) CF (k_X6_distinctEstimate l G ad o sg st h0) (cwV 1 hts gL_distinctEstimate_X6_distinctEstimate rfl rfl rfl (by decide +kernel) ⟨Nat.le_of_ble_eq_true rfl, Nat.le_of_ble_eq_true rfl⟩) hP9 hD9 hS hA hY rfl rfl (fst_RR _ _ _ _ _) rfl hl.1 rfl (lv_room (Nat.le_of_ble_eq_true rfl)) dL_distinctEstimate_4 ⟨Nat.zero_le _, Nat.zero_le _⟩ (fun H locs hP hD hS => ?_)
  rw [List.append_nil] at hP hD
  have hP : va_P G.1 vwCl ([(ou, .inl (G.2.2.2, 1, .inr (.inl fo)))] ++ (wRR G ad o (rrMD sg st))) H := hP
  have hD : va_D A ([(ou, .inl (G.2.2.2, 1, .inr (.inl fo)))] ++ (wRR G ad o (rrMD sg st))) := hD
  refine va_last hx hb hY.1 hP hD hS 0 2 rfl rfl vp_0_1 dL_distinctEstimate_7 (fun H locs hP hD hS => ?_)
  have hP : va_P G.1 vwCl ([(ou, .inl (G.2.2.2, 1, .inr (.inl (vp_updL fo (0 : Int32).toNatClampNeg (disEst (rrDis sg st))))))] ++ (wRR G ad o (rrMD sg st))) H := hP
  have hD : va_D A ([(ou, .inl (G.2.2.2, 1, .inr (.inl (vp_updL fo (0 : Int32).toNatClampNeg (disEst (rrDis sg st))))))] ++ (wRR G ad o (rrMD sg st))) := hD
  refine lv_goto (tgt := 14) hx hb dL_distinctEstimate_8 (by decide) ?_
  refine lv_iconst (v := 0) hx hb dL_distinctEstimate_14 (by decide) ?_
  refine W.widen (k := 1) (n := 6) (Nat.zero_le _) (Nat.zero_le _) ?_
  exact ca_iret hx hb hr hlk hS hP (by first | with_reducible rfl | (simp only [sld_eq, ↓reduceIte]; done)) (by first | with_reducible rfl | (simp only [sld_eq, ↓reduceIte]; done)) dL_distinctEstimate_15

set_option maxHeartbeats 4000000 in
set_option maxRecDepth 100000 in
theorem k1_L_distinctEstimate (l : Launch) (hl0 : l.stackTraces = false) (G : GT) (ad : Nat → Nat) (o : Nat) (sg : RRT) (st : Int32) (ou : Nat) (fo : Nat → Int64) (hk : ¬ (okA st 0 2)) : Ca l yL_distinctEstimate wsL_distinctEstimate { frames := 8, cells := 1, slots := 6, locals := 143 } G ([(ou, .inl (G.2.2.2, 1, .inr (.inl fo)))] ++ (wRR G ad o sg)) ([(ou, .inl (G.2.2.2, 1, .inr (.inl fo)))] ++ (wRR G ad o sg)) [.ref (ad o), .int st, .ref ou] (some (.int 1)) := by
  intro sz
  refine met_ofWH (cc := cL_distinctEstimate) (maxL := 4) (ret := (some .int)) (hh := [(0, 8, 11, 13)]) (by decide) rfl ?_
  intro p e s m args below meth c s₁ B hml hv
  obtain ⟨rfl, hsz, hP, hY, hD0, hZ0⟩ := hv
  subst hsz
  have hD := hD0.self (sz := s.heap.size)
  generalize hAe : va_A ([(ou, .inl (G.2.2.2, 1, .inr (.inl fo)))] ++ (wRR G ad o sg)) s.heap.size = A at hD hZ0 ⊢
  have hZ : Zs A s s.heap := hZ0
  have hA : ∀ q : Nat, s.heap.size ≤ q → A q := fun q h => by rw [← hAe]; exact Or.inr h
  have hS : va_S A s.heap s.heap [] := va_S.rf
  have hx := B.exec
  have hb := B.bytes
  have hr := B.returns
  have hts := atoms_spec (ws := wsL_distinctEstimate) B.pre
  have hown : s.vm.findClass RL = some m.cls := findClass_of_methodNamed B.named
  have hlk := B.notSynchronized
  have CF : CallFix p m c cL_distinctEstimate 4 s _ wsL_distinctEstimate RL := ⟨hx, hb, hml, hown, hts⟩
  have kx0 := hts (.classLink RL 13 "java/lang/IllegalArgumentException") (List.mem_cons_of_mem _ (List.mem_append_left _ (List.mem_append_left _ (List.mem_append_left _ (List.mem_append_left _ (List.mem_append_left _ (List.mem_of_getElem? (i := 0) rfl)))))))
  have htab := vx_table (x := yL_distinctEstimate) B (hts (.codeWith yL_distinctEstimate cL_distinctEstimate 4 (some .int) [(0, 8, 11, 13)]) List.mem_cons_self)
  have hl := lv_entry ([.ref (ad o), .int st, .ref ou]) (n := 4) (Nat.le_of_ble_eq_true rfl)
  rw [lg_entry_eq]
  generalize (lg_sl ([.ref (ad o), .int st, .ref ou]) ++ List.replicate (4 - (lg_sl ([.ref (ad o), .int st, .ref ou])).length) Slot.unset).toArray = ls at hl ⊢
  have hl : lv_has ls 4 [(0, .ref (ad o)), (1, .int st), (2, .ref ou)] := hl
  refine lv_aload_n hx hb dL_distinctEstimate_0 rfl (lv_at hl 2 rfl) ?_
  refine lv_iconst (v := 0) hx hb dL_distinctEstimate_1 (by decide) ?_
  refine lv_aload_n hx hb dL_distinctEstimate_2 rfl (lv_at hl 0 rfl) ?_
  refine lv_iload_n hx hb dL_distinctEstimate_3 rfl (lv_at hl 1 rfl) ?_
  have hP9 := hP
  have hD9 := hD
  rw [← List.append_nil (wRR G ad o sg)] at hP9 hD9
  refine noV [(ou, .inl (G.2.2.2, 1, .inr (.inl fo)))] (wRR G ad o sg) [] (wRR G ad o sg) (As := [.int st]) (rest := [.int 0, .ref ou]) CF (kn_X6_distinctEstimate l hl0 G ad o sg st hk) (cwV 1 hts gL_distinctEstimate_X6_distinctEstimate rfl rfl rfl (by decide +kernel) ⟨Nat.le_of_ble_eq_true rfl, Nat.le_of_ble_eq_true rfl⟩) hP9 hD9 hS hA hY hZ rfl rfl (fst_RR _ _ _ _ _) rfl hl.1 rfl (lv_room (Nat.le_of_ble_eq_true rfl)) dL_distinctEstimate_4 ⟨Nat.le_of_ble_eq_true rfl, Nat.le_of_ble_eq_true rfl⟩ (fun ce q9 H locs hP hD hS hce hcv hcl => ?_)
  rw [List.append_nil] at hP hD
  have hP : va_P G.1 vwCl ([(ou, .inl (G.2.2.2, 1, .inr (.inl fo)))] ++ (wRR G ad o sg)) H := hP
  have hD : va_D A ([(ou, .inl (G.2.2.2, 1, .inr (.inl fo)))] ++ (wRR G ad o sg)) := hD
  refine vx_catch (own := RL) (name := "java/lang/IllegalArgumentException") hown [] ⟨0, 8, 11, 13⟩ [] htab (fun z hz => nomatch hz) rfl (by decide) kx0 (va_Nw.use rfl (hY.2.1 (.castable "java/lang/IllegalArgumentException" "java/lang/IllegalArgumentException") (List.mem_of_getElem? (i := 39) rfl))) hce hcv hcl ?_
  refine lv_astore_n (lv' := [(3, .ref q9), (0, .ref (ad o)), (1, .int st), (2, .ref ou)]) hx hb dL_distinctEstimate_11 rfl hl (by decide) rfl (fun ls hl => ?_)
  refine lv_iconst (v := 1) hx hb dL_distinctEstimate_12 (by decide) ?_
  exact ca_iret hx hb hr hlk hS hP (by first | with_reducible rfl | (simp only [sld_eq, ↓reduceIte]; done)) (by first | with_reducible rfl | (simp only [sld_eq, ↓reduceIte]; done)) dL_distinctEstimate_13

set_option maxHeartbeats 4000000 in
set_option maxRecDepth 100000 in
theorem k_L_windowItem (l : Launch) (G : GT) (ad : Nat → Nat) (o : Nat) (sg : RRT) (st : Int32) (ou : Nat) (fo : Nat → Int64) (h0 : okA st 0 1) (hs : ¬ (rrStr sg st).2.2.1 ≤ 0) : Ca l yL_windowItem wsL_windowItem { frames := 8, cells := 1, slots := 6, locals := 144 } G ([(ou, .inl (G.2.2.2, 1, .inr (.inl fo)))] ++ (wRR G ad o sg)) ([(ou, .inl (G.2.2.2, 1, .inr (.inl (vp_updL fo (0 : Int32).toNatClampNeg (at_ 300 (rrCha sg st).2.2.2.2.1 (rrCha sg st).2.1).toInt64))))] ++ (wRR G ad o sg)) [.ref (ad o), .int st, .ref ou] (some (.int 0)) := by
  intro sz
  refine met_ofWH (cc := cL_windowItem) (maxL := 4) (ret := (some .int)) (hh := [(0, 9, 12, 13), (0, 9, 15, 19)]) (by decide) rfl ?_
  intro p e s m args below meth c s₁ B hml hv
  obtain ⟨rfl, hsz, hP, hY, hD0, hZ0⟩ := hv
  subst hsz
  have hD := hD0.self (sz := s.heap.size)
  generalize hAe : va_A ([(ou, .inl (G.2.2.2, 1, .inr (.inl fo)))] ++ (wRR G ad o sg)) s.heap.size = A at hD hZ0 ⊢
  have hZ : Zs A s s.heap := hZ0
  have hA : ∀ q : Nat, s.heap.size ≤ q → A q := fun q h => by rw [← hAe]; exact Or.inr h
  have hS : va_S A s.heap s.heap [] := va_S.rf
  have hx := B.exec
  have hb := B.bytes
  have hr := B.returns
  have hts := atoms_spec (ws := wsL_windowItem) B.pre
  have hown : s.vm.findClass RL = some m.cls := findClass_of_methodNamed B.named
  have hlk := B.notSynchronized
  have CF : CallFix p m c cL_windowItem 4 s _ wsL_windowItem RL := ⟨hx, hb, hml, hown, hts⟩
  have hl := lv_entry ([.ref (ad o), .int st, .ref ou]) (n := 4) (Nat.le_of_ble_eq_true rfl)
  rw [lg_entry_eq]
  generalize (lg_sl ([.ref (ad o), .int st, .ref ou]) ++ List.replicate (4 - (lg_sl ([.ref (ad o), .int st, .ref ou])).length) Slot.unset).toArray = ls at hl ⊢
  have hl : lv_has ls 4 [(0, .ref (ad o)), (1, .int st), (2, .ref ou)] := hl
  refine lv_aload_n hx hb dL_windowItem_0 rfl (lv_at hl 2 rfl) ?_
  refine lv_iconst (v := 0) hx hb dL_windowItem_1 (by decide) ?_
  refine lv_aload_n hx hb dL_windowItem_2 rfl (lv_at hl 0 rfl) ?_
  refine lv_iload_n hx hb dL_windowItem_3 rfl (lv_at hl 1 rfl) ?_
  refine rdV (w0 := (wRR G ad o sg)) (As := [.int st]) (rest := [.int 0, .ref ou]) CF (k_X6_windowItem l G ad o sg st h0 hs) (cwV 1 hts gL_windowItem_X6_windowItem rfl rfl rfl (by decide +kernel) ⟨Nat.le_of_ble_eq_true rfl, Nat.le_of_ble_eq_true rfl⟩) hP.apr hY rfl rfl rfl hl.1 rfl (lv_room (Nat.le_of_ble_eq_true rfl)) dL_windowItem_4 ⟨Nat.zero_le _, Nat.zero_le _⟩ ?_
  refine lv_i2l hx hb dL_windowItem_7 rfl ?_
  refine va_last hx hb hY.1 hP hD hS 0 2 rfl rfl vp_0_1 dL_windowItem_8 (fun H locs hP hD hS => ?_)
  have hP : va_P G.1 vwCl ([(ou, .inl (G.2.2.2, 1, .inr (.inl (vp_updL fo (0 : Int32).toNatClampNeg ((at_ 300 (rrCha sg st).2.2.2.2.1 (rrCha sg st).2.1).toInt64)))))] ++ (wRR G ad o sg)) H := hP
  have hD : va_D A ([(ou, .inl (G.2.2.2, 1, .inr (.inl (vp_updL fo (0 : Int32).toNatClampNeg ((at_ 300 (rrCha sg st).2.2.2.2.1 (rrCha sg st).2.1).toInt64)))))] ++ (wRR G ad o sg)) := hD
  refine lv_goto (tgt := 18) hx hb dL_windowItem_9 (by decide) ?_
  refine lv_iconst (v := 0) hx hb dL_windowItem_18 (by decide) ?_
  refine W.widen (k := 1) (n := 6) (Nat.zero_le _) (Nat.zero_le _) ?_
  exact ca_iret hx hb hr hlk hS hP (by first | with_reducible rfl | (simp only [sld_eq, ↓reduceIte]; done)) (by first | with_reducible rfl | (simp only [sld_eq, ↓reduceIte]; done)) dL_windowItem_19

set_option maxHeartbeats 4000000 in
set_option maxRecDepth 100000 in
theorem k1_L_windowItem (l : Launch) (hl0 : l.stackTraces = false) (G : GT) (ad : Nat → Nat) (o : Nat) (sg : RRT) (st : Int32) (ou : Nat) (fo : Nat → Int64) (hk : ¬ (okA st 0 1)) : Ca l yL_windowItem wsL_windowItem { frames := 8, cells := 1, slots := 6, locals := 144 } G ([(ou, .inl (G.2.2.2, 1, .inr (.inl fo)))] ++ (wRR G ad o sg)) ([(ou, .inl (G.2.2.2, 1, .inr (.inl fo)))] ++ (wRR G ad o sg)) [.ref (ad o), .int st, .ref ou] (some (.int 1)) := by
  intro sz
  refine met_ofWH (cc := cL_windowItem) (maxL := 4) (ret := (some .int)) (hh := [(0, 9, 12, 13), (0, 9, 15, 19)]) (by decide) rfl ?_
  intro p e s m args below meth c s₁ B hml hv
  obtain ⟨rfl, hsz, hP, hY, hD0, hZ0⟩ := hv
  subst hsz
  have hD := hD0.self (sz := s.heap.size)
  generalize hAe : va_A ([(ou, .inl (G.2.2.2, 1, .inr (.inl fo)))] ++ (wRR G ad o sg)) s.heap.size = A at hD hZ0 ⊢
  have hZ : Zs A s s.heap := hZ0
  have hA : ∀ q : Nat, s.heap.size ≤ q → A q := fun q h => by rw [← hAe]; exact Or.inr h
  have hS : va_S A s.heap s.heap [] := va_S.rf
  have hx := B.exec
  have hb := B.bytes
  have hr := B.returns
  have hts := atoms_spec (ws := wsL_windowItem) B.pre
  have hown : s.vm.findClass RL = some m.cls := findClass_of_methodNamed B.named
  have hlk := B.notSynchronized
  have CF : CallFix p m c cL_windowItem 4 s _ wsL_windowItem RL := ⟨hx, hb, hml, hown, hts⟩
  have kx0 := hts (.classLink RL 13 "java/lang/IllegalArgumentException") (List.mem_cons_of_mem _ (List.mem_append_left _ (List.mem_append_left _ (List.mem_append_left _ (List.mem_append_left _ (List.mem_append_left _ (List.mem_append_left _ (List.mem_of_getElem? (i := 0) rfl))))))))
  have htab := vx_table (x := yL_windowItem) B (hts (.codeWith yL_windowItem cL_windowItem 4 (some .int) [(0, 9, 12, 13), (0, 9, 15, 19)]) List.mem_cons_self)
  have hl := lv_entry ([.ref (ad o), .int st, .ref ou]) (n := 4) (Nat.le_of_ble_eq_true rfl)
  rw [lg_entry_eq]
  generalize (lg_sl ([.ref (ad o), .int st, .ref ou]) ++ List.replicate (4 - (lg_sl ([.ref (ad o), .int st, .ref ou])).length) Slot.unset).toArray = ls at hl ⊢
  have hl : lv_has ls 4 [(0, .ref (ad o)), (1, .int st), (2, .ref ou)] := hl
  refine lv_aload_n hx hb dL_windowItem_0 rfl (lv_at hl 2 rfl) ?_
  refine lv_iconst (v := 0) hx hb dL_windowItem_1 (by decide) ?_
  refine lv_aload_n hx hb dL_windowItem_2 rfl (lv_at hl 0 rfl) ?_
  refine lv_iload_n hx hb dL_windowItem_3 rfl (lv_at hl 1 rfl) ?_
  have hP9 := hP
  have hD9 := hD
  rw [← List.append_nil (wRR G ad o sg)] at hP9 hD9
  refine noV [(ou, .inl (G.2.2.2, 1, .inr (.inl fo)))] (wRR G ad o sg) [] (wRR G ad o sg) (As := [.int st]) (rest := [.int 0, .ref ou]) CF (kn_X6_windowItem l hl0 G ad o sg st hk) (cwV 1 hts gL_windowItem_X6_windowItem rfl rfl rfl (by decide +kernel) ⟨Nat.le_of_ble_eq_true rfl, Nat.le_of_ble_eq_true rfl⟩) hP9 hD9 hS hA hY hZ rfl rfl (fst_RR _ _ _ _ _) rfl hl.1 rfl (lv_room (Nat.le_of_ble_eq_true rfl)) dL_windowItem_4 ⟨Nat.le_of_ble_eq_true rfl, Nat.le_of_ble_eq_true rfl⟩ (fun ce q9 H locs hP hD hS hce hcv hcl => ?_)
  rw [List.append_nil] at hP hD
  have hP : va_P G.1 vwCl ([(ou, .inl (G.2.2.2, 1, .inr (.inl fo)))] ++ (wRR G ad o sg)) H := hP
  have hD : va_D A ([(ou, .inl (G.2.2.2, 1, .inr (.inl fo)))] ++ (wRR G ad o sg)) := hD
  refine vx_catch (own := RL) (name := "java/lang/IllegalArgumentException") hown [] ⟨0, 9, 12, 13⟩ [⟨0, 9, 15, 19⟩] htab (fun z hz => nomatch hz) rfl (by decide) kx0 (va_Nw.use rfl (hY.2.1 (.castable "java/lang/IllegalArgumentException" "java/lang/IllegalArgumentException") (List.mem_of_getElem? (i := 39) rfl))) hce hcv hcl ?_
  refine lv_astore_n (lv' := [(3, .ref q9), (0, .ref (ad o)), (1, .int st), (2, .ref ou)]) hx hb dL_windowItem_12 rfl hl (by decide) rfl (fun ls hl => ?_)
  refine lv_iconst (v := 1) hx hb dL_windowItem_13 (by decide) ?_
  exact ca_iret hx hb hr hlk hS hP (by first | with_reducible rfl | (simp only [sld_eq, ↓reduceIte]; done)) (by first | with_reducible rfl | (simp only [sld_eq, ↓reduceIte]; done)) dL_windowItem_14

set_option maxHeartbeats 4000000 in
set_option maxRecDepth 100000 in
theorem k2_L_windowItem (l : Launch) (hl0 : l.stackTraces = false) (G : GT) (ad : Nat → Nat) (o : Nat) (sg : RRT) (st : Int32) (ou : Nat) (fo : Nat → Int64) (h0 : okA st 0 1) (hs : (rrStr sg st).2.2.1 ≤ 0) : Ca l yL_windowItem wsL_windowItem { frames := 8, cells := 1, slots := 6, locals := 144 } G ([(ou, .inl (G.2.2.2, 1, .inr (.inl fo)))] ++ (wRR G ad o sg)) ([(ou, .inl (G.2.2.2, 1, .inr (.inl fo)))] ++ (wRR G ad o sg)) [.ref (ad o), .int st, .ref ou] (some (.int 2)) := by
  intro sz
  refine met_ofWH (cc := cL_windowItem) (maxL := 4) (ret := (some .int)) (hh := [(0, 9, 12, 13), (0, 9, 15, 19)]) (by decide) rfl ?_
  intro p e s m args below meth c s₁ B hml hv
  obtain ⟨rfl, hsz, hP, hY, hD0, hZ0⟩ := hv
  subst hsz
  have hD := hD0.self (sz := s.heap.size)
  generalize hAe : va_A ([(ou, .inl (G.2.2.2, 1, .inr (.inl fo)))] ++ (wRR G ad o sg)) s.heap.size = A at hD hZ0 ⊢
  have hZ : Zs A s s.heap := hZ0
  have hA : ∀ q : Nat, s.heap.size ≤ q → A q := fun q h => by rw [← hAe]; exact Or.inr h
  have hS : va_S A s.heap s.heap [] := va_S.rf
  have hx := B.exec
  have hb := B.bytes
  have hr := B.returns
  have hts := atoms_spec (ws := wsL_windowItem) B.pre
  have hown : s.vm.findClass RL = some m.cls := findClass_of_methodNamed B.named
  have hlk := B.notSynchronized
  have CF : CallFix p m c cL_windowItem 4 s _ wsL_windowItem RL := ⟨hx, hb, hml, hown, hts⟩
  have kx1 := hts (.classLink RL 19 "java/lang/IllegalStateException") (List.mem_cons_of_mem _ (List.mem_append_left _ (List.mem_append_left _ (List.mem_append_left _ (List.mem_append_left _ (List.mem_append_left _ (List.mem_append_left _ (List.mem_of_getElem? (i := 1) rfl))))))))
  have kx0 := hts (.classLink RL 13 "java/lang/IllegalArgumentException") (List.mem_cons_of_mem _ (List.mem_append_left _ (List.mem_append_left _ (List.mem_append_left _ (List.mem_append_left _ (List.mem_append_left _ (List.mem_append_left _ (List.mem_of_getElem? (i := 0) rfl))))))))
  have htab := vx_table (x := yL_windowItem) B (hts (.codeWith yL_windowItem cL_windowItem 4 (some .int) [(0, 9, 12, 13), (0, 9, 15, 19)]) List.mem_cons_self)
  have hl := lv_entry ([.ref (ad o), .int st, .ref ou]) (n := 4) (Nat.le_of_ble_eq_true rfl)
  rw [lg_entry_eq]
  generalize (lg_sl ([.ref (ad o), .int st, .ref ou]) ++ List.replicate (4 - (lg_sl ([.ref (ad o), .int st, .ref ou])).length) Slot.unset).toArray = ls at hl ⊢
  have hl : lv_has ls 4 [(0, .ref (ad o)), (1, .int st), (2, .ref ou)] := hl
  refine lv_aload_n hx hb dL_windowItem_0 rfl (lv_at hl 2 rfl) ?_
  refine lv_iconst (v := 0) hx hb dL_windowItem_1 (by decide) ?_
  refine lv_aload_n hx hb dL_windowItem_2 rfl (lv_at hl 0 rfl) ?_
  refine lv_iload_n hx hb dL_windowItem_3 rfl (lv_at hl 1 rfl) ?_
  have hP9 := hP
  have hD9 := hD
  rw [← List.append_nil (wRR G ad o sg)] at hP9 hD9
  refine noV [(ou, .inl (G.2.2.2, 1, .inr (.inl fo)))] (wRR G ad o sg) [] (wRR G ad o sg) (As := [.int st]) (rest := [.int 0, .ref ou]) CF (kn2_X6_windowItem l hl0 G ad o sg st h0 hs) (cwV 1 hts gL_windowItem_X6_windowItem rfl rfl rfl (by decide +kernel) ⟨Nat.le_of_ble_eq_true rfl, Nat.le_of_ble_eq_true rfl⟩) hP9 hD9 hS hA hY hZ rfl rfl (fst_RR _ _ _ _ _) rfl hl.1 rfl (lv_room (Nat.le_of_ble_eq_true rfl)) dL_windowItem_4 ⟨Nat.le_of_ble_eq_true rfl, Nat.le_of_ble_eq_true rfl⟩ (fun ce q9 H locs hP hD hS hce hcv hcl => ?_)
  rw [List.append_nil] at hP hD
  have hP : va_P G.1 vwCl ([(ou, .inl (G.2.2.2, 1, .inr (.inl fo)))] ++ (wRR G ad o sg)) H := hP
  have hD : va_D A ([(ou, .inl (G.2.2.2, 1, .inr (.inl fo)))] ++ (wRR G ad o sg)) := hD
  refine vx_catch (own := RL) (name := "java/lang/IllegalStateException") hown [⟨0, 9, 12, 13⟩] ⟨0, 9, 15, 19⟩ [] htab (fun z hz => by rcases List.mem_singleton.mp hz with rfl; exact Or.inr ⟨by decide, _, kx0, hY.2.2.1 ("java/lang/IllegalStateException", "java/lang/IllegalArgumentException") (List.mem_of_getElem? (i := 0) rfl)⟩) rfl (by decide) kx1 (va_Nw.use rfl (hY.2.1 (.castable "java/lang/IllegalStateException" "java/lang/IllegalStateException") (List.mem_of_getElem? (i := 40) rfl))) hce hcv hcl ?_
  refine lv_astore_n (lv' := [(3, .ref q9), (0, .ref (ad o)), (1, .int st), (2, .ref ou)]) hx hb dL_windowItem_15 rfl hl (by decide) rfl (fun ls hl => ?_)
  refine lv_iconst (v := 2) hx hb dL_windowItem_16 (by decide) ?_
  exact ca_iret hx hb hr hlk hS hP (by first | with_reducible rfl | (simp only [sld_eq, ↓reduceIte]; done)) (by first | with_reducible rfl | (simp only [sld_eq, ↓reduceIte]; done)) dL_windowItem_17

set_option maxHeartbeats 4000000 in
set_option maxRecDepth 100000 in
theorem k_L_windowPosition (l : Launch) (G : GT) (ad : Nat → Nat) (o : Nat) (sg : RRT) (st : Int32) (ou : Nat) (fo : Nat → Int64) (h0 : okA st 0 1) (hs : ¬ (rrStr sg st).2.2.1 ≤ 0) : Ca l yL_windowPosition wsL_windowPosition { frames := 8, cells := 1, slots := 6, locals := 144 } G ([(ou, .inl (G.2.2.2, 1, .inr (.inl fo)))] ++ (wRR G ad o sg)) ([(ou, .inl (G.2.2.2, 1, .inr (.inl (vp_updL fo (0 : Int32).toNatClampNeg (at_ 300 (rrCha sg st).2.2.2.2.2 (rrCha sg st).2.1).toInt64))))] ++ (wRR G ad o sg)) [.ref (ad o), .int st, .ref ou] (some (.int 0)) := by
  intro sz
  refine met_ofWH (cc := cL_windowPosition) (maxL := 4) (ret := (some .int)) (hh := [(0, 9, 12, 13), (0, 9, 15, 19)]) (by decide) rfl ?_
  intro p e s m args below meth c s₁ B hml hv
  obtain ⟨rfl, hsz, hP, hY, hD0, hZ0⟩ := hv
  subst hsz
  have hD := hD0.self (sz := s.heap.size)
  generalize hAe : va_A ([(ou, .inl (G.2.2.2, 1, .inr (.inl fo)))] ++ (wRR G ad o sg)) s.heap.size = A at hD hZ0 ⊢
  have hZ : Zs A s s.heap := hZ0
  have hA : ∀ q : Nat, s.heap.size ≤ q → A q := fun q h => by rw [← hAe]; exact Or.inr h
  have hS : va_S A s.heap s.heap [] := va_S.rf
  have hx := B.exec
  have hb := B.bytes
  have hr := B.returns
  have hts := atoms_spec (ws := wsL_windowPosition) B.pre
  have hown : s.vm.findClass RL = some m.cls := findClass_of_methodNamed B.named
  have hlk := B.notSynchronized
  have CF : CallFix p m c cL_windowPosition 4 s _ wsL_windowPosition RL := ⟨hx, hb, hml, hown, hts⟩
  have hl := lv_entry ([.ref (ad o), .int st, .ref ou]) (n := 4) (Nat.le_of_ble_eq_true rfl)
  rw [lg_entry_eq]
  generalize (lg_sl ([.ref (ad o), .int st, .ref ou]) ++ List.replicate (4 - (lg_sl ([.ref (ad o), .int st, .ref ou])).length) Slot.unset).toArray = ls at hl ⊢
  have hl : lv_has ls 4 [(0, .ref (ad o)), (1, .int st), (2, .ref ou)] := hl
  refine lv_aload_n hx hb dL_windowPosition_0 rfl (lv_at hl 2 rfl) ?_
  refine lv_iconst (v := 0) hx hb dL_windowPosition_1 (by decide) ?_
  refine lv_aload_n hx hb dL_windowPosition_2 rfl (lv_at hl 0 rfl) ?_
  refine lv_iload_n hx hb dL_windowPosition_3 rfl (lv_at hl 1 rfl) ?_
  refine rdV (w0 := (wRR G ad o sg)) (As := [.int st]) (rest := [.int 0, .ref ou]) CF (k_X6_windowPosition l G ad o sg st h0 hs) (cwV 1 hts gL_windowPosition_X6_windowPosition rfl rfl rfl (by decide +kernel) ⟨Nat.le_of_ble_eq_true rfl, Nat.le_of_ble_eq_true rfl⟩) hP.apr hY rfl rfl rfl hl.1 rfl (lv_room (Nat.le_of_ble_eq_true rfl)) dL_windowPosition_4 ⟨Nat.zero_le _, Nat.zero_le _⟩ ?_
  refine lv_i2l hx hb dL_windowPosition_7 rfl ?_
  refine va_last hx hb hY.1 hP hD hS 0 2 rfl rfl vp_0_1 dL_windowPosition_8 (fun H locs hP hD hS => ?_)
  have hP : va_P G.1 vwCl ([(ou, .inl (G.2.2.2, 1, .inr (.inl (vp_updL fo (0 : Int32).toNatClampNeg ((at_ 300 (rrCha sg st).2.2.2.2.2 (rrCha sg st).2.1).toInt64)))))] ++ (wRR G ad o sg)) H := hP
  have hD : va_D A ([(ou, .inl (G.2.2.2, 1, .inr (.inl (vp_updL fo (0 : Int32).toNatClampNeg ((at_ 300 (rrCha sg st).2.2.2.2.2 (rrCha sg st).2.1).toInt64)))))] ++ (wRR G ad o sg)) := hD
  refine lv_goto (tgt := 18) hx hb dL_windowPosition_9 (by decide) ?_
  refine lv_iconst (v := 0) hx hb dL_windowPosition_18 (by decide) ?_
  refine W.widen (k := 1) (n := 6) (Nat.zero_le _) (Nat.zero_le _) ?_
  exact ca_iret hx hb hr hlk hS hP (by first | with_reducible rfl | (simp only [sld_eq, ↓reduceIte]; done)) (by first | with_reducible rfl | (simp only [sld_eq, ↓reduceIte]; done)) dL_windowPosition_19

set_option maxHeartbeats 4000000 in
set_option maxRecDepth 100000 in
theorem k1_L_windowPosition (l : Launch) (hl0 : l.stackTraces = false) (G : GT) (ad : Nat → Nat) (o : Nat) (sg : RRT) (st : Int32) (ou : Nat) (fo : Nat → Int64) (hk : ¬ (okA st 0 1)) : Ca l yL_windowPosition wsL_windowPosition { frames := 8, cells := 1, slots := 6, locals := 144 } G ([(ou, .inl (G.2.2.2, 1, .inr (.inl fo)))] ++ (wRR G ad o sg)) ([(ou, .inl (G.2.2.2, 1, .inr (.inl fo)))] ++ (wRR G ad o sg)) [.ref (ad o), .int st, .ref ou] (some (.int 1)) := by
  intro sz
  refine met_ofWH (cc := cL_windowPosition) (maxL := 4) (ret := (some .int)) (hh := [(0, 9, 12, 13), (0, 9, 15, 19)]) (by decide) rfl ?_
  intro p e s m args below meth c s₁ B hml hv
  obtain ⟨rfl, hsz, hP, hY, hD0, hZ0⟩ := hv
  subst hsz
  have hD := hD0.self (sz := s.heap.size)
  generalize hAe : va_A ([(ou, .inl (G.2.2.2, 1, .inr (.inl fo)))] ++ (wRR G ad o sg)) s.heap.size = A at hD hZ0 ⊢
  have hZ : Zs A s s.heap := hZ0
  have hA : ∀ q : Nat, s.heap.size ≤ q → A q := fun q h => by rw [← hAe]; exact Or.inr h
  have hS : va_S A s.heap s.heap [] := va_S.rf
  have hx := B.exec
  have hb := B.bytes
  have hr := B.returns
  have hts := atoms_spec (ws := wsL_windowPosition) B.pre
  have hown : s.vm.findClass RL = some m.cls := findClass_of_methodNamed B.named
  have hlk := B.notSynchronized
  have CF : CallFix p m c cL_windowPosition 4 s _ wsL_windowPosition RL := ⟨hx, hb, hml, hown, hts⟩
  have kx0 := hts (.classLink RL 13 "java/lang/IllegalArgumentException") (List.mem_cons_of_mem _ (List.mem_append_left _ (List.mem_append_left _ (List.mem_append_left _ (List.mem_append_left _ (List.mem_append_left _ (List.mem_append_left _ (List.mem_of_getElem? (i := 0) rfl))))))))
  have htab := vx_table (x := yL_windowPosition) B (hts (.codeWith yL_windowPosition cL_windowPosition 4 (some .int) [(0, 9, 12, 13), (0, 9, 15, 19)]) List.mem_cons_self)
  have hl := lv_entry ([.ref (ad o), .int st, .ref ou]) (n := 4) (Nat.le_of_ble_eq_true rfl)
  rw [lg_entry_eq]
  generalize (lg_sl ([.ref (ad o), .int st, .ref ou]) ++ List.replicate (4 - (lg_sl ([.ref (ad o), .int st, .ref ou])).length) Slot.unset).toArray = ls at hl ⊢
  have hl : lv_has ls 4 [(0, .ref (ad o)), (1, .int st), (2, .ref ou)] := hl
  refine lv_aload_n hx hb dL_windowPosition_0 rfl (lv_at hl 2 rfl) ?_
  refine lv_iconst (v := 0) hx hb dL_windowPosition_1 (by decide) ?_
  refine lv_aload_n hx hb dL_windowPosition_2 rfl (lv_at hl 0 rfl) ?_
  refine lv_iload_n hx hb dL_windowPosition_3 rfl (lv_at hl 1 rfl) ?_
  have hP9 := hP
  have hD9 := hD
  rw [← List.append_nil (wRR G ad o sg)] at hP9 hD9
  refine noV [(ou, .inl (G.2.2.2, 1, .inr (.inl fo)))] (wRR G ad o sg) [] (wRR G ad o sg) (As := [.int st]) (rest := [.int 0, .ref ou]) CF (kn_X6_windowPosition l hl0 G ad o sg st hk) (cwV 1 hts gL_windowPosition_X6_windowPosition rfl rfl rfl (by decide +kernel) ⟨Nat.le_of_ble_eq_true rfl, Nat.le_of_ble_eq_true rfl⟩) hP9 hD9 hS hA hY hZ rfl rfl (fst_RR _ _ _ _ _) rfl hl.1 rfl (lv_room (Nat.le_of_ble_eq_true rfl)) dL_windowPosition_4 ⟨Nat.le_of_ble_eq_true rfl, Nat.le_of_ble_eq_true rfl⟩ (fun ce q9 H locs hP hD hS hce hcv hcl => ?_)
  rw [List.append_nil] at hP hD
  have hP : va_P G.1 vwCl ([(ou, .inl (G.2.2.2, 1, .inr (.inl fo)))] ++ (wRR G ad o sg)) H := hP
  have hD : va_D A ([(ou, .inl (G.2.2.2, 1, .inr (.inl fo)))] ++ (wRR G ad o sg)) := hD
  refine vx_catch (own := RL) (name := "java/lang/IllegalArgumentException") hown [] ⟨0, 9, 12, 13⟩ [⟨0, 9, 15, 19⟩] htab (fun z hz => nomatch hz) rfl (by decide) kx0 (va_Nw.use rfl (hY.2.1 (.castable "java/lang/IllegalArgumentException" "java/lang/IllegalArgumentException") (List.mem_of_getElem? (i := 39) rfl))) hce hcv hcl ?_
  refine lv_astore_n (lv' := [(3, .ref q9), (0, .ref (ad o)), (1, .int st), (2, .ref ou)]) hx hb dL_windowPosition_12 rfl hl (by decide) rfl (fun ls hl => ?_)
  refine lv_iconst (v := 1) hx hb dL_windowPosition_13 (by decide) ?_
  exact ca_iret hx hb hr hlk hS hP (by first | with_reducible rfl | (simp only [sld_eq, ↓reduceIte]; done)) (by first | with_reducible rfl | (simp only [sld_eq, ↓reduceIte]; done)) dL_windowPosition_14

set_option maxHeartbeats 4000000 in
set_option maxRecDepth 100000 in
theorem k2_L_windowPosition (l : Launch) (hl0 : l.stackTraces = false) (G : GT) (ad : Nat → Nat) (o : Nat) (sg : RRT) (st : Int32) (ou : Nat) (fo : Nat → Int64) (h0 : okA st 0 1) (hs : (rrStr sg st).2.2.1 ≤ 0) : Ca l yL_windowPosition wsL_windowPosition { frames := 8, cells := 1, slots := 6, locals := 144 } G ([(ou, .inl (G.2.2.2, 1, .inr (.inl fo)))] ++ (wRR G ad o sg)) ([(ou, .inl (G.2.2.2, 1, .inr (.inl fo)))] ++ (wRR G ad o sg)) [.ref (ad o), .int st, .ref ou] (some (.int 2)) := by
  intro sz
  refine met_ofWH (cc := cL_windowPosition) (maxL := 4) (ret := (some .int)) (hh := [(0, 9, 12, 13), (0, 9, 15, 19)]) (by decide) rfl ?_
  intro p e s m args below meth c s₁ B hml hv
  obtain ⟨rfl, hsz, hP, hY, hD0, hZ0⟩ := hv
  subst hsz
  have hD := hD0.self (sz := s.heap.size)
  generalize hAe : va_A ([(ou, .inl (G.2.2.2, 1, .inr (.inl fo)))] ++ (wRR G ad o sg)) s.heap.size = A at hD hZ0 ⊢
  have hZ : Zs A s s.heap := hZ0
  have hA : ∀ q : Nat, s.heap.size ≤ q → A q := fun q h => by rw [← hAe]; exact Or.inr h
  have hS : va_S A s.heap s.heap [] := va_S.rf
  have hx := B.exec
  have hb := B.bytes
  have hr := B.returns
  have hts := atoms_spec (ws := wsL_windowPosition) B.pre
  have hown : s.vm.findClass RL = some m.cls := findClass_of_methodNamed B.named
  have hlk := B.notSynchronized
  have CF : CallFix p m c cL_windowPosition 4 s _ wsL_windowPosition RL := ⟨hx, hb, hml, hown, hts⟩
  have kx1 := hts (.classLink RL 19 "java/lang/IllegalStateException") (List.mem_cons_of_mem _ (List.mem_append_left _ (List.mem_append_left _ (List.mem_append_left _ (List.mem_append_left _ (List.mem_append_left _ (List.mem_append_left _ (List.mem_of_getElem? (i := 1) rfl))))))))
  have kx0 := hts (.classLink RL 13 "java/lang/IllegalArgumentException") (List.mem_cons_of_mem _ (List.mem_append_left _ (List.mem_append_left _ (List.mem_append_left _ (List.mem_append_left _ (List.mem_append_left _ (List.mem_append_left _ (List.mem_of_getElem? (i := 0) rfl))))))))
  have htab := vx_table (x := yL_windowPosition) B (hts (.codeWith yL_windowPosition cL_windowPosition 4 (some .int) [(0, 9, 12, 13), (0, 9, 15, 19)]) List.mem_cons_self)
  have hl := lv_entry ([.ref (ad o), .int st, .ref ou]) (n := 4) (Nat.le_of_ble_eq_true rfl)
  rw [lg_entry_eq]
  generalize (lg_sl ([.ref (ad o), .int st, .ref ou]) ++ List.replicate (4 - (lg_sl ([.ref (ad o), .int st, .ref ou])).length) Slot.unset).toArray = ls at hl ⊢
  have hl : lv_has ls 4 [(0, .ref (ad o)), (1, .int st), (2, .ref ou)] := hl
  refine lv_aload_n hx hb dL_windowPosition_0 rfl (lv_at hl 2 rfl) ?_
  refine lv_iconst (v := 0) hx hb dL_windowPosition_1 (by decide) ?_
  refine lv_aload_n hx hb dL_windowPosition_2 rfl (lv_at hl 0 rfl) ?_
  refine lv_iload_n hx hb dL_windowPosition_3 rfl (lv_at hl 1 rfl) ?_
  have hP9 := hP
  have hD9 := hD
  rw [← List.append_nil (wRR G ad o sg)] at hP9 hD9
  refine noV [(ou, .inl (G.2.2.2, 1, .inr (.inl fo)))] (wRR G ad o sg) [] (wRR G ad o sg) (As := [.int st]) (rest := [.int 0, .ref ou]) CF (kn2_X6_windowPosition l hl0 G ad o sg st h0 hs) (cwV 1 hts gL_windowPosition_X6_windowPosition rfl rfl rfl (by decide +kernel) ⟨Nat.le_of_ble_eq_true rfl, Nat.le_of_ble_eq_true rfl⟩) hP9 hD9 hS hA hY hZ rfl rfl (fst_RR _ _ _ _ _) rfl hl.1 rfl (lv_room (Nat.le_of_ble_eq_true rfl)) dL_windowPosition_4 ⟨Nat.le_of_ble_eq_true rfl, Nat.le_of_ble_eq_true rfl⟩ (fun ce q9 H locs hP hD hS hce hcv hcl => ?_)
  rw [List.append_nil] at hP hD
  have hP : va_P G.1 vwCl ([(ou, .inl (G.2.2.2, 1, .inr (.inl fo)))] ++ (wRR G ad o sg)) H := hP
  have hD : va_D A ([(ou, .inl (G.2.2.2, 1, .inr (.inl fo)))] ++ (wRR G ad o sg)) := hD
  refine vx_catch (own := RL) (name := "java/lang/IllegalStateException") hown [⟨0, 9, 12, 13⟩] ⟨0, 9, 15, 19⟩ [] htab (fun z hz => by rcases List.mem_singleton.mp hz with rfl; exact Or.inr ⟨by decide, _, kx0, hY.2.2.1 ("java/lang/IllegalStateException", "java/lang/IllegalArgumentException") (List.mem_of_getElem? (i := 0) rfl)⟩) rfl (by decide) kx1 (va_Nw.use rfl (hY.2.1 (.castable "java/lang/IllegalStateException" "java/lang/IllegalStateException") (List.mem_of_getElem? (i := 40) rfl))) hce hcv hcl ?_
  refine lv_astore_n (lv' := [(3, .ref q9), (0, .ref (ad o)), (1, .int st), (2, .ref ou)]) hx hb dL_windowPosition_15 rfl hl (by decide) rfl (fun ls hl => ?_)
  refine lv_iconst (v := 2) hx hb dL_windowPosition_16 (by decide) ?_
  exact ca_iret hx hb hr hlk hS hP (by first | with_reducible rfl | (simp only [sld_eq, ↓reduceIte]; done)) (by first | with_reducible rfl | (simp only [sld_eq, ↓reduceIte]; done)) dL_windowPosition_17

set_option maxHeartbeats 4000000 in
set_option maxRecDepth 100000 in
theorem k_L_chainLength (l : Launch) (G : GT) (ad : Nat → Nat) (o : Nat) (sg : RRT) (st : Int32) (ou : Nat) (fo : Nat → Int64) (h0 : okA st 0 1) : Ca l yL_chainLength wsL_chainLength { frames := 8, cells := 1, slots := 6, locals := 143 } G ([(ou, .inl (G.2.2.2, 1, .inr (.inl fo)))] ++ (wRR G ad o sg)) ([(ou, .inl (G.2.2.2, 1, .inr (.inl (vp_updL fo (0 : Int32).toNatClampNeg (chaLen (rrCha sg st)).toInt64))))] ++ (wRR G ad o sg)) [.ref (ad o), .int st, .ref ou] (some (.int 0)) := by
  intro sz
  refine met_ofWH (cc := cL_chainLength) (maxL := 4) (ret := (some .int)) (hh := [(0, 9, 12, 13)]) (by decide) rfl ?_
  intro p e s m args below meth c s₁ B hml hv
  obtain ⟨rfl, hsz, hP, hY, hD0, hZ0⟩ := hv
  subst hsz
  have hD := hD0.self (sz := s.heap.size)
  generalize hAe : va_A ([(ou, .inl (G.2.2.2, 1, .inr (.inl fo)))] ++ (wRR G ad o sg)) s.heap.size = A at hD hZ0 ⊢
  have hZ : Zs A s s.heap := hZ0
  have hA : ∀ q : Nat, s.heap.size ≤ q → A q := fun q h => by rw [← hAe]; exact Or.inr h
  have hS : va_S A s.heap s.heap [] := va_S.rf
  have hx := B.exec
  have hb := B.bytes
  have hr := B.returns
  have hts := atoms_spec (ws := wsL_chainLength) B.pre
  have hown : s.vm.findClass RL = some m.cls := findClass_of_methodNamed B.named
  have hlk := B.notSynchronized
  have CF : CallFix p m c cL_chainLength 4 s _ wsL_chainLength RL := ⟨hx, hb, hml, hown, hts⟩
  have hl := lv_entry ([.ref (ad o), .int st, .ref ou]) (n := 4) (Nat.le_of_ble_eq_true rfl)
  rw [lg_entry_eq]
  generalize (lg_sl ([.ref (ad o), .int st, .ref ou]) ++ List.replicate (4 - (lg_sl ([.ref (ad o), .int st, .ref ou])).length) Slot.unset).toArray = ls at hl ⊢
  have hl : lv_has ls 4 [(0, .ref (ad o)), (1, .int st), (2, .ref ou)] := hl
  refine lv_aload_n hx hb dL_chainLength_0 rfl (lv_at hl 2 rfl) ?_
  refine lv_iconst (v := 0) hx hb dL_chainLength_1 (by decide) ?_
  refine lv_aload_n hx hb dL_chainLength_2 rfl (lv_at hl 0 rfl) ?_
  refine lv_iload_n hx hb dL_chainLength_3 rfl (lv_at hl 1 rfl) ?_
  refine rdV (w0 := (wRR G ad o sg)) (As := [.int st]) (rest := [.int 0, .ref ou]) CF (k_X6_chainLength l G ad o sg st h0) (cwV 1 hts gL_chainLength_X6_chainLength rfl rfl rfl (by decide +kernel) ⟨Nat.le_of_ble_eq_true rfl, Nat.le_of_ble_eq_true rfl⟩) hP.apr hY rfl rfl rfl hl.1 rfl (lv_room (Nat.le_of_ble_eq_true rfl)) dL_chainLength_4 ⟨Nat.zero_le _, Nat.zero_le _⟩ ?_
  refine lv_i2l hx hb dL_chainLength_7 rfl ?_
  refine va_last hx hb hY.1 hP hD hS 0 2 rfl rfl vp_0_1 dL_chainLength_8 (fun H locs hP hD hS => ?_)
  have hP : va_P G.1 vwCl ([(ou, .inl (G.2.2.2, 1, .inr (.inl (vp_updL fo (0 : Int32).toNatClampNeg ((chaLen (rrCha sg st)).toInt64)))))] ++ (wRR G ad o sg)) H := hP
  have hD : va_D A ([(ou, .inl (G.2.2.2, 1, .inr (.inl (vp_updL fo (0 : Int32).toNatClampNeg ((chaLen (rrCha sg st)).toInt64)))))] ++ (wRR G ad o sg)) := hD
  refine lv_goto (tgt := 15) hx hb dL_chainLength_9 (by decide) ?_
  refine lv_iconst (v := 0) hx hb dL_chainLength_15 (by decide) ?_
  refine W.widen (k := 1) (n := 6) (Nat.zero_le _) (Nat.zero_le _) ?_
  exact ca_iret hx hb hr hlk hS hP (by first | with_reducible rfl | (simp only [sld_eq, ↓reduceIte]; done)) (by first | with_reducible rfl | (simp only [sld_eq, ↓reduceIte]; done)) dL_chainLength_16

set_option maxHeartbeats 4000000 in
set_option maxRecDepth 100000 in
theorem k1_L_chainLength (l : Launch) (hl0 : l.stackTraces = false) (G : GT) (ad : Nat → Nat) (o : Nat) (sg : RRT) (st : Int32) (ou : Nat) (fo : Nat → Int64) (hk : ¬ (okA st 0 1)) : Ca l yL_chainLength wsL_chainLength { frames := 8, cells := 1, slots := 6, locals := 143 } G ([(ou, .inl (G.2.2.2, 1, .inr (.inl fo)))] ++ (wRR G ad o sg)) ([(ou, .inl (G.2.2.2, 1, .inr (.inl fo)))] ++ (wRR G ad o sg)) [.ref (ad o), .int st, .ref ou] (some (.int 1)) := by
  intro sz
  refine met_ofWH (cc := cL_chainLength) (maxL := 4) (ret := (some .int)) (hh := [(0, 9, 12, 13)]) (by decide) rfl ?_
  intro p e s m args below meth c s₁ B hml hv
  obtain ⟨rfl, hsz, hP, hY, hD0, hZ0⟩ := hv
  subst hsz
  have hD := hD0.self (sz := s.heap.size)
  generalize hAe : va_A ([(ou, .inl (G.2.2.2, 1, .inr (.inl fo)))] ++ (wRR G ad o sg)) s.heap.size = A at hD hZ0 ⊢
  have hZ : Zs A s s.heap := hZ0
  have hA : ∀ q : Nat, s.heap.size ≤ q → A q := fun q h => by rw [← hAe]; exact Or.inr h
  have hS : va_S A s.heap s.heap [] := va_S.rf
  have hx := B.exec
  have hb := B.bytes
  have hr := B.returns
  have hts := atoms_spec (ws := wsL_chainLength) B.pre
  have hown : s.vm.findClass RL = some m.cls := findClass_of_methodNamed B.named
  have hlk := B.notSynchronized
  have CF : CallFix p m c cL_chainLength 4 s _ wsL_chainLength RL := ⟨hx, hb, hml, hown, hts⟩
  have kx0 := hts (.classLink RL 13 "java/lang/IllegalArgumentException") (List.mem_cons_of_mem _ (List.mem_append_left _ (List.mem_append_left _ (List.mem_append_left _ (List.mem_append_left _ (List.mem_of_getElem? (i := 0) rfl))))))
  have htab := vx_table (x := yL_chainLength) B (hts (.codeWith yL_chainLength cL_chainLength 4 (some .int) [(0, 9, 12, 13)]) List.mem_cons_self)
  have hl := lv_entry ([.ref (ad o), .int st, .ref ou]) (n := 4) (Nat.le_of_ble_eq_true rfl)
  rw [lg_entry_eq]
  generalize (lg_sl ([.ref (ad o), .int st, .ref ou]) ++ List.replicate (4 - (lg_sl ([.ref (ad o), .int st, .ref ou])).length) Slot.unset).toArray = ls at hl ⊢
  have hl : lv_has ls 4 [(0, .ref (ad o)), (1, .int st), (2, .ref ou)] := hl
  refine lv_aload_n hx hb dL_chainLength_0 rfl (lv_at hl 2 rfl) ?_
  refine lv_iconst (v := 0) hx hb dL_chainLength_1 (by decide) ?_
  refine lv_aload_n hx hb dL_chainLength_2 rfl (lv_at hl 0 rfl) ?_
  refine lv_iload_n hx hb dL_chainLength_3 rfl (lv_at hl 1 rfl) ?_
  have hP9 := hP
  have hD9 := hD
  rw [← List.append_nil (wRR G ad o sg)] at hP9 hD9
  refine noV [(ou, .inl (G.2.2.2, 1, .inr (.inl fo)))] (wRR G ad o sg) [] (wRR G ad o sg) (As := [.int st]) (rest := [.int 0, .ref ou]) CF (kn_X6_chainLength l hl0 G ad o sg st hk) (cwV 1 hts gL_chainLength_X6_chainLength rfl rfl rfl (by decide +kernel) ⟨Nat.le_of_ble_eq_true rfl, Nat.le_of_ble_eq_true rfl⟩) hP9 hD9 hS hA hY hZ rfl rfl (fst_RR _ _ _ _ _) rfl hl.1 rfl (lv_room (Nat.le_of_ble_eq_true rfl)) dL_chainLength_4 ⟨Nat.le_of_ble_eq_true rfl, Nat.le_of_ble_eq_true rfl⟩ (fun ce q9 H locs hP hD hS hce hcv hcl => ?_)
  rw [List.append_nil] at hP hD
  have hP : va_P G.1 vwCl ([(ou, .inl (G.2.2.2, 1, .inr (.inl fo)))] ++ (wRR G ad o sg)) H := hP
  have hD : va_D A ([(ou, .inl (G.2.2.2, 1, .inr (.inl fo)))] ++ (wRR G ad o sg)) := hD
  refine vx_catch (own := RL) (name := "java/lang/IllegalArgumentException") hown [] ⟨0, 9, 12, 13⟩ [] htab (fun z hz => nomatch hz) rfl (by decide) kx0 (va_Nw.use rfl (hY.2.1 (.castable "java/lang/IllegalArgumentException" "java/lang/IllegalArgumentException") (List.mem_of_getElem? (i := 39) rfl))) hce hcv hcl ?_
  refine lv_astore_n (lv' := [(3, .ref q9), (0, .ref (ad o)), (1, .int st), (2, .ref ou)]) hx hb dL_chainLength_12 rfl hl (by decide) rfl (fun ls hl => ?_)
  refine lv_iconst (v := 1) hx hb dL_chainLength_13 (by decide) ?_
  exact ca_iret hx hb hr hlk hS hP (by first | with_reducible rfl | (simp only [sld_eq, ↓reduceIte]; done)) (by first | with_reducible rfl | (simp only [sld_eq, ↓reduceIte]; done)) dL_chainLength_14

set_option maxHeartbeats 4000000 in
set_option maxRecDepth 100000 in
theorem k_L_successor (l : Launch) (G : GT) (ad : Nat → Nat) (o : Nat) (sg : RRT) (st : Int32) (ou : Nat) (fo : Nat → Int64) (h0 : okA st 0 1) (hs : ¬ (rrStr sg st).2.2.1 ≤ 0) : Ca l yL_successor wsL_successor { frames := 8, cells := 1, slots := 6, locals := 144 } G ([(ou, .inl (G.2.2.2, 1, .inr (.inl fo)))] ++ (wRR G ad o sg)) ([(ou, .inl (G.2.2.2, 1, .inr (.inl (vp_updL fo (0 : Int32).toNatClampNeg ((rrCha sg st).2.2.2.1).toInt64))))] ++ (wRR G ad o sg)) [.ref (ad o), .int st, .ref ou] (some (.int 0)) := by
  intro sz
  refine met_ofWH (cc := cL_successor) (maxL := 4) (ret := (some .int)) (hh := [(0, 9, 12, 13), (0, 9, 15, 19)]) (by decide) rfl ?_
  intro p e s m args below meth c s₁ B hml hv
  obtain ⟨rfl, hsz, hP, hY, hD0, hZ0⟩ := hv
  subst hsz
  have hD := hD0.self (sz := s.heap.size)
  generalize hAe : va_A ([(ou, .inl (G.2.2.2, 1, .inr (.inl fo)))] ++ (wRR G ad o sg)) s.heap.size = A at hD hZ0 ⊢
  have hZ : Zs A s s.heap := hZ0
  have hA : ∀ q : Nat, s.heap.size ≤ q → A q := fun q h => by rw [← hAe]; exact Or.inr h
  have hS : va_S A s.heap s.heap [] := va_S.rf
  have hx := B.exec
  have hb := B.bytes
  have hr := B.returns
  have hts := atoms_spec (ws := wsL_successor) B.pre
  have hown : s.vm.findClass RL = some m.cls := findClass_of_methodNamed B.named
  have hlk := B.notSynchronized
  have CF : CallFix p m c cL_successor 4 s _ wsL_successor RL := ⟨hx, hb, hml, hown, hts⟩
  have hl := lv_entry ([.ref (ad o), .int st, .ref ou]) (n := 4) (Nat.le_of_ble_eq_true rfl)
  rw [lg_entry_eq]
  generalize (lg_sl ([.ref (ad o), .int st, .ref ou]) ++ List.replicate (4 - (lg_sl ([.ref (ad o), .int st, .ref ou])).length) Slot.unset).toArray = ls at hl ⊢
  have hl : lv_has ls 4 [(0, .ref (ad o)), (1, .int st), (2, .ref ou)] := hl
  refine lv_aload_n hx hb dL_successor_0 rfl (lv_at hl 2 rfl) ?_
  refine lv_iconst (v := 0) hx hb dL_successor_1 (by decide) ?_
  refine lv_aload_n hx hb dL_successor_2 rfl (lv_at hl 0 rfl) ?_
  refine lv_iload_n hx hb dL_successor_3 rfl (lv_at hl 1 rfl) ?_
  refine rdV (w0 := (wRR G ad o sg)) (As := [.int st]) (rest := [.int 0, .ref ou]) CF (k_X6_successor l G ad o sg st h0 hs) (cwV 1 hts gL_successor_X6_successor rfl rfl rfl (by decide +kernel) ⟨Nat.le_of_ble_eq_true rfl, Nat.le_of_ble_eq_true rfl⟩) hP.apr hY rfl rfl rfl hl.1 rfl (lv_room (Nat.le_of_ble_eq_true rfl)) dL_successor_4 ⟨Nat.zero_le _, Nat.zero_le _⟩ ?_
  refine lv_i2l hx hb dL_successor_7 rfl ?_
  refine va_last hx hb hY.1 hP hD hS 0 2 rfl rfl vp_0_1 dL_successor_8 (fun H locs hP hD hS => ?_)
  have hP : va_P G.1 vwCl ([(ou, .inl (G.2.2.2, 1, .inr (.inl (vp_updL fo (0 : Int32).toNatClampNeg (((rrCha sg st).2.2.2.1).toInt64)))))] ++ (wRR G ad o sg)) H := hP
  have hD : va_D A ([(ou, .inl (G.2.2.2, 1, .inr (.inl (vp_updL fo (0 : Int32).toNatClampNeg (((rrCha sg st).2.2.2.1).toInt64)))))] ++ (wRR G ad o sg)) := hD
  refine lv_goto (tgt := 18) hx hb dL_successor_9 (by decide) ?_
  refine lv_iconst (v := 0) hx hb dL_successor_18 (by decide) ?_
  refine W.widen (k := 1) (n := 6) (Nat.zero_le _) (Nat.zero_le _) ?_
  exact ca_iret hx hb hr hlk hS hP (by first | with_reducible rfl | (simp only [sld_eq, ↓reduceIte]; done)) (by first | with_reducible rfl | (simp only [sld_eq, ↓reduceIte]; done)) dL_successor_19

set_option maxHeartbeats 4000000 in
set_option maxRecDepth 100000 in
theorem k1_L_successor (l : Launch) (hl0 : l.stackTraces = false) (G : GT) (ad : Nat → Nat) (o : Nat) (sg : RRT) (st : Int32) (ou : Nat) (fo : Nat → Int64) (hk : ¬ (okA st 0 1)) : Ca l yL_successor wsL_successor { frames := 8, cells := 1, slots := 6, locals := 144 } G ([(ou, .inl (G.2.2.2, 1, .inr (.inl fo)))] ++ (wRR G ad o sg)) ([(ou, .inl (G.2.2.2, 1, .inr (.inl fo)))] ++ (wRR G ad o sg)) [.ref (ad o), .int st, .ref ou] (some (.int 1)) := by
  intro sz
  refine met_ofWH (cc := cL_successor) (maxL := 4) (ret := (some .int)) (hh := [(0, 9, 12, 13), (0, 9, 15, 19)]) (by decide) rfl ?_
  intro p e s m args below meth c s₁ B hml hv
  obtain ⟨rfl, hsz, hP, hY, hD0, hZ0⟩ := hv
  subst hsz
  have hD := hD0.self (sz := s.heap.size)
  generalize hAe : va_A ([(ou, .inl (G.2.2.2, 1, .inr (.inl fo)))] ++ (wRR G ad o sg)) s.heap.size = A at hD hZ0 ⊢
  have hZ : Zs A s s.heap := hZ0
  have hA : ∀ q : Nat, s.heap.size ≤ q → A q := fun q h => by rw [← hAe]; exact Or.inr h
  have hS : va_S A s.heap s.heap [] := va_S.rf
  have hx := B.exec
  have hb := B.bytes
  have hr := B.returns
  have hts := atoms_spec (ws := wsL_successor) B.pre
  have hown : s.vm.findClass RL = some m.cls := findClass_of_methodNamed B.named
  have hlk := B.notSynchronized
  have CF : CallFix p m c cL_successor 4 s _ wsL_successor RL := ⟨hx, hb, hml, hown, hts⟩
  have kx0 := hts (.classLink RL 13 "java/lang/IllegalArgumentException") (List.mem_cons_of_mem _ (List.mem_append_left _ (List.mem_append_left _ (List.mem_append_left _ (List.mem_append_left _ (List.mem_append_left _ (List.mem_of_getElem? (i := 0) rfl)))))))
  have htab := vx_table (x := yL_successor) B (hts (.codeWith yL_successor cL_successor 4 (some .int) [(0, 9, 12, 13), (0, 9, 15, 19)]) List.mem_cons_self)
  have hl := lv_entry ([.ref (ad o), .int st, .ref ou]) (n := 4) (Nat.le_of_ble_eq_true rfl)
  rw [lg_entry_eq]
  generalize (lg_sl ([.ref (ad o), .int st, .ref ou]) ++ List.replicate (4 - (lg_sl ([.ref (ad o), .int st, .ref ou])).length) Slot.unset).toArray = ls at hl ⊢
  have hl : lv_has ls 4 [(0, .ref (ad o)), (1, .int st), (2, .ref ou)] := hl
  refine lv_aload_n hx hb dL_successor_0 rfl (lv_at hl 2 rfl) ?_
  refine lv_iconst (v := 0) hx hb dL_successor_1 (by decide) ?_
  refine lv_aload_n hx hb dL_successor_2 rfl (lv_at hl 0 rfl) ?_
  refine lv_iload_n hx hb dL_successor_3 rfl (lv_at hl 1 rfl) ?_
  have hP9 := hP
  have hD9 := hD
  rw [← List.append_nil (wRR G ad o sg)] at hP9 hD9
  refine noV [(ou, .inl (G.2.2.2, 1, .inr (.inl fo)))] (wRR G ad o sg) [] (wRR G ad o sg) (As := [.int st]) (rest := [.int 0, .ref ou]) CF (kn_X6_successor l hl0 G ad o sg st hk) (cwV 1 hts gL_successor_X6_successor rfl rfl rfl (by decide +kernel) ⟨Nat.le_of_ble_eq_true rfl, Nat.le_of_ble_eq_true rfl⟩) hP9 hD9 hS hA hY hZ rfl rfl (fst_RR _ _ _ _ _) rfl hl.1 rfl (lv_room (Nat.le_of_ble_eq_true rfl)) dL_successor_4 ⟨Nat.le_of_ble_eq_true rfl, Nat.le_of_ble_eq_true rfl⟩ (fun ce q9 H locs hP hD hS hce hcv hcl => ?_)
  rw [List.append_nil] at hP hD
  have hP : va_P G.1 vwCl ([(ou, .inl (G.2.2.2, 1, .inr (.inl fo)))] ++ (wRR G ad o sg)) H := hP
  have hD : va_D A ([(ou, .inl (G.2.2.2, 1, .inr (.inl fo)))] ++ (wRR G ad o sg)) := hD
  refine vx_catch (own := RL) (name := "java/lang/IllegalArgumentException") hown [] ⟨0, 9, 12, 13⟩ [⟨0, 9, 15, 19⟩] htab (fun z hz => nomatch hz) rfl (by decide) kx0 (va_Nw.use rfl (hY.2.1 (.castable "java/lang/IllegalArgumentException" "java/lang/IllegalArgumentException") (List.mem_of_getElem? (i := 39) rfl))) hce hcv hcl ?_
  refine lv_astore_n (lv' := [(3, .ref q9), (0, .ref (ad o)), (1, .int st), (2, .ref ou)]) hx hb dL_successor_12 rfl hl (by decide) rfl (fun ls hl => ?_)
  refine lv_iconst (v := 1) hx hb dL_successor_13 (by decide) ?_
  exact ca_iret hx hb hr hlk hS hP (by first | with_reducible rfl | (simp only [sld_eq, ↓reduceIte]; done)) (by first | with_reducible rfl | (simp only [sld_eq, ↓reduceIte]; done)) dL_successor_14

set_option maxHeartbeats 4000000 in
set_option maxRecDepth 100000 in
theorem k2_L_successor (l : Launch) (hl0 : l.stackTraces = false) (G : GT) (ad : Nat → Nat) (o : Nat) (sg : RRT) (st : Int32) (ou : Nat) (fo : Nat → Int64) (h0 : okA st 0 1) (hs : (rrStr sg st).2.2.1 ≤ 0) : Ca l yL_successor wsL_successor { frames := 8, cells := 1, slots := 6, locals := 144 } G ([(ou, .inl (G.2.2.2, 1, .inr (.inl fo)))] ++ (wRR G ad o sg)) ([(ou, .inl (G.2.2.2, 1, .inr (.inl fo)))] ++ (wRR G ad o sg)) [.ref (ad o), .int st, .ref ou] (some (.int 2)) := by
  intro sz
  refine met_ofWH (cc := cL_successor) (maxL := 4) (ret := (some .int)) (hh := [(0, 9, 12, 13), (0, 9, 15, 19)]) (by decide) rfl ?_
  intro p e s m args below meth c s₁ B hml hv
  obtain ⟨rfl, hsz, hP, hY, hD0, hZ0⟩ := hv
  subst hsz
  have hD := hD0.self (sz := s.heap.size)
  generalize hAe : va_A ([(ou, .inl (G.2.2.2, 1, .inr (.inl fo)))] ++ (wRR G ad o sg)) s.heap.size = A at hD hZ0 ⊢
  have hZ : Zs A s s.heap := hZ0
  have hA : ∀ q : Nat, s.heap.size ≤ q → A q := fun q h => by rw [← hAe]; exact Or.inr h
  have hS : va_S A s.heap s.heap [] := va_S.rf
  have hx := B.exec
  have hb := B.bytes
  have hr := B.returns
  have hts := atoms_spec (ws := wsL_successor) B.pre
  have hown : s.vm.findClass RL = some m.cls := findClass_of_methodNamed B.named
  have hlk := B.notSynchronized
  have CF : CallFix p m c cL_successor 4 s _ wsL_successor RL := ⟨hx, hb, hml, hown, hts⟩
  have kx1 := hts (.classLink RL 19 "java/lang/IllegalStateException") (List.mem_cons_of_mem _ (List.mem_append_left _ (List.mem_append_left _ (List.mem_append_left _ (List.mem_append_left _ (List.mem_append_left _ (List.mem_of_getElem? (i := 1) rfl)))))))
  have kx0 := hts (.classLink RL 13 "java/lang/IllegalArgumentException") (List.mem_cons_of_mem _ (List.mem_append_left _ (List.mem_append_left _ (List.mem_append_left _ (List.mem_append_left _ (List.mem_append_left _ (List.mem_of_getElem? (i := 0) rfl)))))))
  have htab := vx_table (x := yL_successor) B (hts (.codeWith yL_successor cL_successor 4 (some .int) [(0, 9, 12, 13), (0, 9, 15, 19)]) List.mem_cons_self)
  have hl := lv_entry ([.ref (ad o), .int st, .ref ou]) (n := 4) (Nat.le_of_ble_eq_true rfl)
  rw [lg_entry_eq]
  generalize (lg_sl ([.ref (ad o), .int st, .ref ou]) ++ List.replicate (4 - (lg_sl ([.ref (ad o), .int st, .ref ou])).length) Slot.unset).toArray = ls at hl ⊢
  have hl : lv_has ls 4 [(0, .ref (ad o)), (1, .int st), (2, .ref ou)] := hl
  refine lv_aload_n hx hb dL_successor_0 rfl (lv_at hl 2 rfl) ?_
  refine lv_iconst (v := 0) hx hb dL_successor_1 (by decide) ?_
  refine lv_aload_n hx hb dL_successor_2 rfl (lv_at hl 0 rfl) ?_
  refine lv_iload_n hx hb dL_successor_3 rfl (lv_at hl 1 rfl) ?_
  have hP9 := hP
  have hD9 := hD
  rw [← List.append_nil (wRR G ad o sg)] at hP9 hD9
  refine noV [(ou, .inl (G.2.2.2, 1, .inr (.inl fo)))] (wRR G ad o sg) [] (wRR G ad o sg) (As := [.int st]) (rest := [.int 0, .ref ou]) CF (kn2_X6_successor l hl0 G ad o sg st h0 hs) (cwV 1 hts gL_successor_X6_successor rfl rfl rfl (by decide +kernel) ⟨Nat.le_of_ble_eq_true rfl, Nat.le_of_ble_eq_true rfl⟩) hP9 hD9 hS hA hY hZ rfl rfl (fst_RR _ _ _ _ _) rfl hl.1 rfl (lv_room (Nat.le_of_ble_eq_true rfl)) dL_successor_4 ⟨Nat.le_of_ble_eq_true rfl, Nat.le_of_ble_eq_true rfl⟩ (fun ce q9 H locs hP hD hS hce hcv hcl => ?_)
  rw [List.append_nil] at hP hD
  have hP : va_P G.1 vwCl ([(ou, .inl (G.2.2.2, 1, .inr (.inl fo)))] ++ (wRR G ad o sg)) H := hP
  have hD : va_D A ([(ou, .inl (G.2.2.2, 1, .inr (.inl fo)))] ++ (wRR G ad o sg)) := hD
  refine vx_catch (own := RL) (name := "java/lang/IllegalStateException") hown [⟨0, 9, 12, 13⟩] ⟨0, 9, 15, 19⟩ [] htab (fun z hz => by rcases List.mem_singleton.mp hz with rfl; exact Or.inr ⟨by decide, _, kx0, hY.2.2.1 ("java/lang/IllegalStateException", "java/lang/IllegalArgumentException") (List.mem_of_getElem? (i := 0) rfl)⟩) rfl (by decide) kx1 (va_Nw.use rfl (hY.2.1 (.castable "java/lang/IllegalStateException" "java/lang/IllegalStateException") (List.mem_of_getElem? (i := 40) rfl))) hce hcv hcl ?_
  refine lv_astore_n (lv' := [(3, .ref q9), (0, .ref (ad o)), (1, .int st), (2, .ref ou)]) hx hb dL_successor_15 rfl hl (by decide) rfl (fun ls hl => ?_)
  refine lv_iconst (v := 2) hx hb dL_successor_16 (by decide) ?_
  exact ca_iret hx hb hr hlk hS hP (by first | with_reducible rfl | (simp only [sld_eq, ↓reduceIte]; done)) (by first | with_reducible rfl | (simp only [sld_eq, ↓reduceIte]; done)) dL_successor_17
