set_option maxHeartbeats 4000000 in
set_option maxRecDepth 100000 in
theorem k_L_groupOffers (l : Launch) (G : GT) (ad : Nat → Nat) (o : Nat) (sg : RRT) (st gr : Int32) (ou : Nat) (fo : Nat → Int64) (h0 : okA st 0 1) (h1 : okA gr 0 3) : Ca l yL_groupOffers wsL_groupOffers { frames := 8, cells := 1, slots := 6, locals := 144 } G ([(ou, .inl (G.2.2.2, 1, .inr (.inl fo)))] ++ (wRR G ad o sg)) ([(ou, .inl (G.2.2.2, 1, .inr (.inl (vp_updL fo (0 : Int32).toNatClampNeg ((strGrp (rrStr sg st) gr).2.2.1).toInt64))))] ++ (wRR G ad o sg)) [.ref (ad o), .int st, .int gr, .ref ou] (some (.int 0)) := by
  intro sz
  refine met_ofWH (cc := cL_groupOffers) (maxL := 5) (ret := (some .int)) (hh := [(0, 10, 13, 13)]) (by decide) rfl ?_
  intro p e s m args below meth c s₁ B hml hv
  obtain ⟨rfl, hsz, hP, hY, hD0, hZ0⟩ := hv
  subst hsz
  have hD := hD0.self (sz := s.heap.size)
  generalize hAe : va_A ([(ou, .inl (G.2.2.2, 1, .inr (.inl fo)))] ++ (wRR G ad o sg)) s.heap.size = A at hD hZ0 ⊢
  have hZ : Zs A s s.heap := hZ0
  have hA : ∀ q : Nat, s.heap.size ≤ q → A q := fun q h => by rw [← hAe]; exact Or.inr h
  have hS : va_S A s.heap s.heap [] := va_S.rf
  have hx := B.exec
  have hb := B.bytes
  have hr := B.returns
  have hts := atoms_spec (ws := wsL_groupOffers) B.pre
  have hown : s.vm.findClass RL = some m.cls := findClass_of_methodNamed B.named
  have hlk := B.notSynchronized
  have CF : CallFix p m c cL_groupOffers 5 s _ wsL_groupOffers RL := ⟨hx, hb, hml, hown, hts⟩
  have hl := lv_entry ([.ref (ad o), .int st, .int gr, .ref ou]) (n := 5) (Nat.le_of_ble_eq_true rfl)
  rw [lg_entry_eq]
  generalize (lg_sl ([.ref (ad o), .int st, .int gr, .ref ou]) ++ List.replicate (5 - (lg_sl ([.ref (ad o), .int st, .int gr, .ref ou])).length) Slot.unset).toArray = ls at hl ⊢
  have hl : lv_has ls 5 [(0, .ref (ad o)), (1, .int st), (2, .int gr), (3, .ref ou)] := hl
  refine lv_aload_n hx hb dL_groupOffers_0 rfl (lv_at hl 3 rfl) ?_
  refine lv_iconst (v := 0) hx hb dL_groupOffers_1 (by decide) ?_
  refine lv_aload_n hx hb dL_groupOffers_2 rfl (lv_at hl 0 rfl) ?_
  refine lv_iload_n hx hb dL_groupOffers_3 rfl (lv_at hl 1 rfl) ?_
  refine lv_iload_n hx hb dL_groupOffers_4 rfl (lv_at hl 2 rfl) ?_
  refine rdV (w0 := (wRR G ad o sg)) (As := [.int st, .int gr]) (rest := [.int 0, .ref ou]) CF (k_X6_groupOffers l G ad o sg st gr h0 h1) (cwV 2 hts gL_groupOffers_X6_groupOffers rfl rfl rfl (by decide +kernel) ⟨Nat.le_of_ble_eq_true rfl, Nat.le_of_ble_eq_true rfl⟩) hP.apr hY rfl rfl rfl hl.1 rfl (lv_room (Nat.le_of_ble_eq_true rfl)) dL_groupOffers_5 ⟨Nat.zero_le _, Nat.zero_le _⟩ ?_
  refine lv_i2l hx hb dL_groupOffers_8 rfl ?_
  refine va_last hx hb hY.1 hP hD hS 0 2 rfl rfl vp_0_1 dL_groupOffers_9 (fun H locs hP hD hS => ?_)
  have hP : va_P G.1 vwCl ([(ou, .inl (G.2.2.2, 1, .inr (.inl (vp_updL fo (0 : Int32).toNatClampNeg (((strGrp (rrStr sg st) gr).2.2.1).toInt64)))))] ++ (wRR G ad o sg)) H := hP
  have hD : va_D A ([(ou, .inl (G.2.2.2, 1, .inr (.inl (vp_updL fo (0 : Int32).toNatClampNeg (((strGrp (rrStr sg st) gr).2.2.1).toInt64)))))] ++ (wRR G ad o sg)) := hD
  refine lv_goto (tgt := 17) hx hb dL_groupOffers_10 (by decide) ?_
  refine lv_iconst (v := 0) hx hb dL_groupOffers_17 (by decide) ?_
  refine W.widen (k := 1) (n := 6) (Nat.zero_le _) (Nat.zero_le _) ?_
  exact ca_iret hx hb hr hlk hS hP (by first | with_reducible rfl | (simp only [sld_eq, ↓reduceIte]; done)) (by first | with_reducible rfl | (simp only [sld_eq, ↓reduceIte]; done)) dL_groupOffers_18

set_option maxHeartbeats 4000000 in
set_option maxRecDepth 100000 in
theorem k1_L_groupOffers (l : Launch) (hl0 : l.stackTraces = false) (G : GT) (ad : Nat → Nat) (o : Nat) (sg : RRT) (st gr : Int32) (ou : Nat) (fo : Nat → Int64) (hk : ¬ (okA st 0 1 ∧ okA gr 0 3)) : Ca l yL_groupOffers wsL_groupOffers { frames := 8, cells := 1, slots := 6, locals := 144 } G ([(ou, .inl (G.2.2.2, 1, .inr (.inl fo)))] ++ (wRR G ad o sg)) ([(ou, .inl (G.2.2.2, 1, .inr (.inl fo)))] ++ (wRR G ad o sg)) [.ref (ad o), .int st, .int gr, .ref ou] (some (.int 1)) := by
  intro sz
  refine met_ofWH (cc := cL_groupOffers) (maxL := 5) (ret := (some .int)) (hh := [(0, 10, 13, 13)]) (by decide) rfl ?_
  intro p e s m args below meth c s₁ B hml hv
  obtain ⟨rfl, hsz, hP, hY, hD0, hZ0⟩ := hv
  subst hsz
  have hD := hD0.self (sz := s.heap.size)
  generalize hAe : va_A ([(ou, .inl (G.2.2.2, 1, .inr (.inl fo)))] ++ (wRR G ad o sg)) s.heap.size = A at hD hZ0 ⊢
  have hZ : Zs A s s.heap := hZ0
  have hA : ∀ q : Nat, s.heap.size ≤ q → A q := fun q h => by rw [← hAe]; exact Or.inr h
  have hS : va_S A s.heap s.heap [] := va_S.rf
  have hx := B.exec
  have hb := B.bytes
  have hr := B.returns
  have hts := atoms_spec (ws := wsL_groupOffers) B.pre
  have hown : s.vm.findClass RL = some m.cls := findClass_of_methodNamed B.named
  have hlk := B.notSynchronized
  have CF : CallFix p m c cL_groupOffers 5 s _ wsL_groupOffers RL := ⟨hx, hb, hml, hown, hts⟩
  have kx0 := hts (.classLink RL 13 "java/lang/IllegalArgumentException") (List.mem_cons_of_mem _ (List.mem_append_left _ (List.mem_append_left _ (List.mem_append_left _ (List.mem_append_left _ (List.mem_append_left _ (List.mem_append_left _ (List.mem_of_getElem? (i := 0) rfl))))))))
  have htab := vx_table (x := yL_groupOffers) B (hts (.codeWith yL_groupOffers cL_groupOffers 5 (some .int) [(0, 10, 13, 13)]) List.mem_cons_self)
  have hl := lv_entry ([.ref (ad o), .int st, .int gr, .ref ou]) (n := 5) (Nat.le_of_ble_eq_true rfl)
  rw [lg_entry_eq]
  generalize (lg_sl ([.ref (ad o), .int st, .int gr, .ref ou]) ++ List.replicate (5 - (lg_sl ([.ref (ad o), .int st, .int gr, .ref ou])).length) Slot.unset).toArray = ls at hl ⊢
  have hl : lv_has ls 5 [(0, .ref (ad o)), (1, .int st), (2, .int gr), (3, .ref ou)] := hl
  refine lv_aload_n hx hb dL_groupOffers_0 rfl (lv_at hl 3 rfl) ?_
  refine lv_iconst (v := 0) hx hb dL_groupOffers_1 (by decide) ?_
  refine lv_aload_n hx hb dL_groupOffers_2 rfl (lv_at hl 0 rfl) ?_
  refine lv_iload_n hx hb dL_groupOffers_3 rfl (lv_at hl 1 rfl) ?_
  refine lv_iload_n hx hb dL_groupOffers_4 rfl (lv_at hl 2 rfl) ?_
  have hP9 := hP
  have hD9 := hD
  rw [← List.append_nil (wRR G ad o sg)] at hP9 hD9
  refine noV [(ou, .inl (G.2.2.2, 1, .inr (.inl fo)))] (wRR G ad o sg) [] (wRR G ad o sg) (As := [.int st, .int gr]) (rest := [.int 0, .ref ou]) CF (kn_X6_groupOffers l hl0 G ad o sg st gr hk) (cwV 2 hts gL_groupOffers_X6_groupOffers rfl rfl rfl (by decide +kernel) ⟨Nat.le_of_ble_eq_true rfl, Nat.le_of_ble_eq_true rfl⟩) hP9 hD9 hS hA hY hZ rfl rfl (fst_RR _ _ _ _ _) rfl hl.1 rfl (lv_room (Nat.le_of_ble_eq_true rfl)) dL_groupOffers_5 ⟨Nat.le_of_ble_eq_true rfl, Nat.le_of_ble_eq_true rfl⟩ (fun ce q9 H locs hP hD hS hce hcv hcl => ?_)
  rw [List.append_nil] at hP hD
  have hP : va_P G.1 vwCl ([(ou, .inl (G.2.2.2, 1, .inr (.inl fo)))] ++ (wRR G ad o sg)) H := hP
  have hD : va_D A ([(ou, .inl (G.2.2.2, 1, .inr (.inl fo)))] ++ (wRR G ad o sg)) := hD
  refine vx_catch (own := RL) (name := "java/lang/IllegalArgumentException") hown [] ⟨0, 10, 13, 13⟩ [] htab (fun z hz => nomatch hz) rfl (by decide) kx0 (va_Nw.use rfl (hY.2.1 (.castable "java/lang/IllegalArgumentException" "java/lang/IllegalArgumentException") (List.mem_of_getElem? (i := 39) rfl))) hce hcv hcl ?_
  refine lv_astore (lv' := [(4, .ref q9), (0, .ref (ad o)), (1, .int st), (2, .int gr), (3, .ref ou)]) hx hb dL_groupOffers_13 hl (by decide) rfl (fun ls hl => ?_)
  refine lv_iconst (v := 1) hx hb dL_groupOffers_15 (by decide) ?_
  exact ca_iret hx hb hr hlk hS hP (by first | with_reducible rfl | (simp only [sld_eq, ↓reduceIte]; done)) (by first | with_reducible rfl | (simp only [sld_eq, ↓reduceIte]; done)) dL_groupOffers_16

set_option maxHeartbeats 4000000 in
set_option maxRecDepth 100000 in
theorem k_L_groupItem (l : Launch) (G : GT) (ad : Nat → Nat) (o : Nat) (sg : RRT) (st gr sl : Int32) (ou : Nat) (fo : Nat → Int64) (h0 : okA st 0 1) (h1 : okA gr 0 3) (hs : okP sl (resFilled (strGrp (rrStr sg st) gr).2)) : Ca l yL_groupItem wsL_groupItem { frames := 8, cells := 1, slots := 6, locals := 146 } G ([(ou, .inl (G.2.2.2, 1, .inr (.inl fo)))] ++ (wRR G ad o sg)) ([(ou, .inl (G.2.2.2, 1, .inr (.inl (vp_updL fo (0 : Int32).toNatClampNeg (at_ 16 (strGrp (rrStr sg st) gr).2.2.2.1 sl).toInt64))))] ++ (wRR G ad o sg)) [.ref (ad o), .int st, .int gr, .int sl, .ref ou] (some (.int 0)) := by
  intro sz
  refine met_ofWH (cc := cL_groupItem) (maxL := 6) (ret := (some .int)) (hh := [(0, 12, 15, 13), (0, 12, 19, 38)]) (by decide) rfl ?_
  intro p e s m args below meth c s₁ B hml hv
  obtain ⟨rfl, hsz, hP, hY, hD0, hZ0⟩ := hv
  subst hsz
  have hD := hD0.self (sz := s.heap.size)
  generalize hAe : va_A ([(ou, .inl (G.2.2.2, 1, .inr (.inl fo)))] ++ (wRR G ad o sg)) s.heap.size = A at hD hZ0 ⊢
  have hZ : Zs A s s.heap := hZ0
  have hA : ∀ q : Nat, s.heap.size ≤ q → A q := fun q h => by rw [← hAe]; exact Or.inr h
  have hS : va_S A s.heap s.heap [] := va_S.rf
  have hx := B.exec
  have hb := B.bytes
  have hr := B.returns
  have hts := atoms_spec (ws := wsL_groupItem) B.pre
  have hown : s.vm.findClass RL = some m.cls := findClass_of_methodNamed B.named
  have hlk := B.notSynchronized
  have CF : CallFix p m c cL_groupItem 6 s _ wsL_groupItem RL := ⟨hx, hb, hml, hown, hts⟩
  have hl := lv_entry ([.ref (ad o), .int st, .int gr, .int sl, .ref ou]) (n := 6) (Nat.le_of_ble_eq_true rfl)
  rw [lg_entry_eq]
  generalize (lg_sl ([.ref (ad o), .int st, .int gr, .int sl, .ref ou]) ++ List.replicate (6 - (lg_sl ([.ref (ad o), .int st, .int gr, .int sl, .ref ou])).length) Slot.unset).toArray = ls at hl ⊢
  have hl : lv_has ls 6 [(0, .ref (ad o)), (1, .int st), (2, .int gr), (3, .int sl), (4, .ref ou)] := hl
  refine lv_aload hx hb dL_groupItem_0 (lv_at hl 4 rfl) ?_
  refine lv_iconst (v := 0) hx hb dL_groupItem_2 (by decide) ?_
  refine lv_aload_n hx hb dL_groupItem_3 rfl (lv_at hl 0 rfl) ?_
  refine lv_iload_n hx hb dL_groupItem_4 rfl (lv_at hl 1 rfl) ?_
  refine lv_iload_n hx hb dL_groupItem_5 rfl (lv_at hl 2 rfl) ?_
  refine lv_iload_n hx hb dL_groupItem_6 rfl (lv_at hl 3 rfl) ?_
  refine rdV (w0 := (wRR G ad o sg)) (As := [.int st, .int gr, .int sl]) (rest := [.int 0, .ref ou]) CF (k_X6_groupItem l G ad o sg st gr sl h0 h1 hs) (cwV 3 hts gL_groupItem_X6_groupItem rfl rfl rfl (by decide +kernel) ⟨Nat.le_of_ble_eq_true rfl, Nat.le_of_ble_eq_true rfl⟩) hP.apr hY rfl rfl rfl hl.1 rfl (lv_room (Nat.le_of_ble_eq_true rfl)) dL_groupItem_7 ⟨Nat.zero_le _, Nat.zero_le _⟩ ?_
  refine lv_i2l hx hb dL_groupItem_10 rfl ?_
  refine va_last hx hb hY.1 hP hD hS 0 2 rfl rfl vp_0_1 dL_groupItem_11 (fun H locs hP hD hS => ?_)
  have hP : va_P G.1 vwCl ([(ou, .inl (G.2.2.2, 1, .inr (.inl (vp_updL fo (0 : Int32).toNatClampNeg ((at_ 16 (strGrp (rrStr sg st) gr).2.2.2.1 sl).toInt64)))))] ++ (wRR G ad o sg)) H := hP
  have hD : va_D A ([(ou, .inl (G.2.2.2, 1, .inr (.inl (vp_updL fo (0 : Int32).toNatClampNeg ((at_ 16 (strGrp (rrStr sg st) gr).2.2.2.1 sl).toInt64)))))] ++ (wRR G ad o sg)) := hD
  refine lv_goto (tgt := 23) hx hb dL_groupItem_12 (by decide) ?_
  refine lv_iconst (v := 0) hx hb dL_groupItem_23 (by decide) ?_
  refine W.widen (k := 1) (n := 6) (Nat.zero_le _) (Nat.zero_le _) ?_
  exact ca_iret hx hb hr hlk hS hP (by first | with_reducible rfl | (simp only [sld_eq, ↓reduceIte]; done)) (by first | with_reducible rfl | (simp only [sld_eq, ↓reduceIte]; done)) dL_groupItem_24

set_option maxHeartbeats 4000000 in
set_option maxRecDepth 100000 in
theorem k1_L_groupItem (l : Launch) (hl0 : l.stackTraces = false) (G : GT) (ad : Nat → Nat) (o : Nat) (sg : RRT) (st gr sl : Int32) (ou : Nat) (fo : Nat → Int64) (hk : ¬ (okA st 0 1 ∧ okA gr 0 3)) : Ca l yL_groupItem wsL_groupItem { frames := 8, cells := 1, slots := 6, locals := 146 } G ([(ou, .inl (G.2.2.2, 1, .inr (.inl fo)))] ++ (wRR G ad o sg)) ([(ou, .inl (G.2.2.2, 1, .inr (.inl fo)))] ++ (wRR G ad o sg)) [.ref (ad o), .int st, .int gr, .int sl, .ref ou] (some (.int 1)) := by
  intro sz
  refine met_ofWH (cc := cL_groupItem) (maxL := 6) (ret := (some .int)) (hh := [(0, 12, 15, 13), (0, 12, 19, 38)]) (by decide) rfl ?_
  intro p e s m args below meth c s₁ B hml hv
  obtain ⟨rfl, hsz, hP, hY, hD0, hZ0⟩ := hv
  subst hsz
  have hD := hD0.self (sz := s.heap.size)
  generalize hAe : va_A ([(ou, .inl (G.2.2.2, 1, .inr (.inl fo)))] ++ (wRR G ad o sg)) s.heap.size = A at hD hZ0 ⊢
  have hZ : Zs A s s.heap := hZ0
  have hA : ∀ q : Nat, s.heap.size ≤ q → A q := fun q h => by rw [← hAe]; exact Or.inr h
  have hS : va_S A s.heap s.heap [] := va_S.rf
  have hx := B.exec
  have hb := B.bytes
  have hr := B.returns
  have hts := atoms_spec (ws := wsL_groupItem) B.pre
  have hown : s.vm.findClass RL = some m.cls := findClass_of_methodNamed B.named
  have hlk := B.notSynchronized
  have CF : CallFix p m c cL_groupItem 6 s _ wsL_groupItem RL := ⟨hx, hb, hml, hown, hts⟩
  have kx0 := hts (.classLink RL 13 "java/lang/IllegalArgumentException") (List.mem_cons_of_mem _ (List.mem_append_left _ (List.mem_append_left _ (List.mem_append_left _ (List.mem_append_left _ (List.mem_append_left _ (List.mem_append_left _ (List.mem_append_left _ (List.mem_of_getElem? (i := 0) rfl)))))))))
  have htab := vx_table (x := yL_groupItem) B (hts (.codeWith yL_groupItem cL_groupItem 6 (some .int) [(0, 12, 15, 13), (0, 12, 19, 38)]) List.mem_cons_self)
  have hl := lv_entry ([.ref (ad o), .int st, .int gr, .int sl, .ref ou]) (n := 6) (Nat.le_of_ble_eq_true rfl)
  rw [lg_entry_eq]
  generalize (lg_sl ([.ref (ad o), .int st, .int gr, .int sl, .ref ou]) ++ List.replicate (6 - (lg_sl ([.ref (ad o), .int st, .int gr, .int sl, .ref ou])).length) Slot.unset).toArray = ls at hl ⊢
  have hl : lv_has ls 6 [(0, .ref (ad o)), (1, .int st), (2, .int gr), (3, .int sl), (4, .ref ou)] := hl
  refine lv_aload hx hb dL_groupItem_0 (lv_at hl 4 rfl) ?_
  refine lv_iconst (v := 0) hx hb dL_groupItem_2 (by decide) ?_
  refine lv_aload_n hx hb dL_groupItem_3 rfl (lv_at hl 0 rfl) ?_
  refine lv_iload_n hx hb dL_groupItem_4 rfl (lv_at hl 1 rfl) ?_
  refine lv_iload_n hx hb dL_groupItem_5 rfl (lv_at hl 2 rfl) ?_
  refine lv_iload_n hx hb dL_groupItem_6 rfl (lv_at hl 3 rfl) ?_
  have hP9 := hP
  have hD9 := hD
  rw [← List.append_nil (wRR G ad o sg)] at hP9 hD9
  refine noV [(ou, .inl (G.2.2.2, 1, .inr (.inl fo)))] (wRR G ad o sg) [] (wRR G ad o sg) (As := [.int st, .int gr, .int sl]) (rest := [.int 0, .ref ou]) CF (kn_X6_groupItem l hl0 G ad o sg st gr sl hk) (cwV 3 hts gL_groupItem_X6_groupItem rfl rfl rfl (by decide +kernel) ⟨Nat.le_of_ble_eq_true rfl, Nat.le_of_ble_eq_true rfl⟩) hP9 hD9 hS hA hY hZ rfl rfl (fst_RR _ _ _ _ _) rfl hl.1 rfl (lv_room (Nat.le_of_ble_eq_true rfl)) dL_groupItem_7 ⟨Nat.le_of_ble_eq_true rfl, Nat.le_of_ble_eq_true rfl⟩ (fun ce q9 H locs hP hD hS hce hcv hcl => ?_)
  rw [List.append_nil] at hP hD
  have hP : va_P G.1 vwCl ([(ou, .inl (G.2.2.2, 1, .inr (.inl fo)))] ++ (wRR G ad o sg)) H := hP
  have hD : va_D A ([(ou, .inl (G.2.2.2, 1, .inr (.inl fo)))] ++ (wRR G ad o sg)) := hD
  refine vx_catch (own := RL) (name := "java/lang/IllegalArgumentException") hown [] ⟨0, 12, 15, 13⟩ [⟨0, 12, 19, 38⟩] htab (fun z hz => nomatch hz) rfl (by decide) kx0 (va_Nw.use rfl (hY.2.1 (.castable "java/lang/IllegalArgumentException" "java/lang/IllegalArgumentException") (List.mem_of_getElem? (i := 39) rfl))) hce hcv hcl ?_
  refine lv_astore (lv' := [(5, .ref q9), (0, .ref (ad o)), (1, .int st), (2, .int gr), (3, .int sl), (4, .ref ou)]) hx hb dL_groupItem_15 hl (by decide) rfl (fun ls hl => ?_)
  refine lv_iconst (v := 1) hx hb dL_groupItem_17 (by decide) ?_
  exact ca_iret hx hb hr hlk hS hP (by first | with_reducible rfl | (simp only [sld_eq, ↓reduceIte]; done)) (by first | with_reducible rfl | (simp only [sld_eq, ↓reduceIte]; done)) dL_groupItem_18

set_option maxHeartbeats 4000000 in
set_option maxRecDepth 100000 in
theorem k2_L_groupItem (l : Launch) (hl0 : l.stackTraces = false) (G : GT) (ad : Nat → Nat) (o : Nat) (sg : RRT) (st gr sl : Int32) (ou : Nat) (fo : Nat → Int64) (h0 : okA st 0 1) (h1 : okA gr 0 3) (hs : ¬ okP sl (resFilled (strGrp (rrStr sg st) gr).2)) : Ca l yL_groupItem wsL_groupItem { frames := 8, cells := 1, slots := 6, locals := 146 } G ([(ou, .inl (G.2.2.2, 1, .inr (.inl fo)))] ++ (wRR G ad o sg)) ([(ou, .inl (G.2.2.2, 1, .inr (.inl fo)))] ++ (wRR G ad o sg)) [.ref (ad o), .int st, .int gr, .int sl, .ref ou] (some (.int 2)) := by
  intro sz
  refine met_ofWH (cc := cL_groupItem) (maxL := 6) (ret := (some .int)) (hh := [(0, 12, 15, 13), (0, 12, 19, 38)]) (by decide) rfl ?_
  intro p e s m args below meth c s₁ B hml hv
  obtain ⟨rfl, hsz, hP, hY, hD0, hZ0⟩ := hv
  subst hsz
  have hD := hD0.self (sz := s.heap.size)
  generalize hAe : va_A ([(ou, .inl (G.2.2.2, 1, .inr (.inl fo)))] ++ (wRR G ad o sg)) s.heap.size = A at hD hZ0 ⊢
  have hZ : Zs A s s.heap := hZ0
  have hA : ∀ q : Nat, s.heap.size ≤ q → A q := fun q h => by rw [← hAe]; exact Or.inr h
  have hS : va_S A s.heap s.heap [] := va_S.rf
  have hx := B.exec
  have hb := B.bytes
  have hr := B.returns
  have hts := atoms_spec (ws := wsL_groupItem) B.pre
  have hown : s.vm.findClass RL = some m.cls := findClass_of_methodNamed B.named
  have hlk := B.notSynchronized
  have CF : CallFix p m c cL_groupItem 6 s _ wsL_groupItem RL := ⟨hx, hb, hml, hown, hts⟩
  have kx1 := hts (.classLink RL 38 "java/lang/IndexOutOfBoundsException") (List.mem_cons_of_mem _ (List.mem_append_left _ (List.mem_append_left _ (List.mem_append_left _ (List.mem_append_left _ (List.mem_append_left _ (List.mem_append_left _ (List.mem_append_left _ (List.mem_of_getElem? (i := 1) rfl)))))))))
  have kx0 := hts (.classLink RL 13 "java/lang/IllegalArgumentException") (List.mem_cons_of_mem _ (List.mem_append_left _ (List.mem_append_left _ (List.mem_append_left _ (List.mem_append_left _ (List.mem_append_left _ (List.mem_append_left _ (List.mem_append_left _ (List.mem_of_getElem? (i := 0) rfl)))))))))
  have htab := vx_table (x := yL_groupItem) B (hts (.codeWith yL_groupItem cL_groupItem 6 (some .int) [(0, 12, 15, 13), (0, 12, 19, 38)]) List.mem_cons_self)
  have hl := lv_entry ([.ref (ad o), .int st, .int gr, .int sl, .ref ou]) (n := 6) (Nat.le_of_ble_eq_true rfl)
  rw [lg_entry_eq]
  generalize (lg_sl ([.ref (ad o), .int st, .int gr, .int sl, .ref ou]) ++ List.replicate (6 - (lg_sl ([.ref (ad o), .int st, .int gr, .int sl, .ref ou])).length) Slot.unset).toArray = ls at hl ⊢
  have hl : lv_has ls 6 [(0, .ref (ad o)), (1, .int st), (2, .int gr), (3, .int sl), (4, .ref ou)] := hl
  refine lv_aload hx hb dL_groupItem_0 (lv_at hl 4 rfl) ?_
  refine lv_iconst (v := 0) hx hb dL_groupItem_2 (by decide) ?_
  refine lv_aload_n hx hb dL_groupItem_3 rfl (lv_at hl 0 rfl) ?_
  refine lv_iload_n hx hb dL_groupItem_4 rfl (lv_at hl 1 rfl) ?_
  refine lv_iload_n hx hb dL_groupItem_5 rfl (lv_at hl 2 rfl) ?_
  refine lv_iload_n hx hb dL_groupItem_6 rfl (lv_at hl 3 rfl) ?_
  have hP9 := hP
  have hD9 := hD
  rw [← List.append_nil (wRR G ad o sg)] at hP9 hD9
  refine noV [(ou, .inl (G.2.2.2, 1, .inr (.inl fo)))] (wRR G ad o sg) [] (wRR G ad o sg) (As := [.int st, .int gr, .int sl]) (rest := [.int 0, .ref ou]) CF (kn2_X6_groupItem l hl0 G ad o sg st gr sl h0 h1 hs) (cwV 3 hts gL_groupItem_X6_groupItem rfl rfl rfl (by decide +kernel) ⟨Nat.le_of_ble_eq_true rfl, Nat.le_of_ble_eq_true rfl⟩) hP9 hD9 hS hA hY hZ rfl rfl (fst_RR _ _ _ _ _) rfl hl.1 rfl (lv_room (Nat.le_of_ble_eq_true rfl)) dL_groupItem_7 ⟨Nat.le_of_ble_eq_true rfl, Nat.le_of_ble_eq_true rfl⟩ (fun ce q9 H locs hP hD hS hce hcv hcl => ?_)
  rw [List.append_nil] at hP hD
  have hP : va_P G.1 vwCl ([(ou, .inl (G.2.2.2, 1, .inr (.inl fo)))] ++ (wRR G ad o sg)) H := hP
  have hD : va_D A ([(ou, .inl (G.2.2.2, 1, .inr (.inl fo)))] ++ (wRR G ad o sg)) := hD
  refine vx_catch (own := RL) (name := "java/lang/IndexOutOfBoundsException") hown [⟨0, 12, 15, 13⟩] ⟨0, 12, 19, 38⟩ [] htab (fun z hz => by rcases List.mem_singleton.mp hz with rfl; exact Or.inr ⟨by decide, _, kx0, hY.2.2.1 ("java/lang/IndexOutOfBoundsException", "java/lang/IllegalArgumentException") (List.mem_of_getElem? (i := 1) rfl)⟩) rfl (by decide) kx1 (va_Nw.use rfl (hY.2.1 (.castable "java/lang/IndexOutOfBoundsException" "java/lang/IndexOutOfBoundsException") (List.mem_of_getElem? (i := 41) rfl))) hce hcv hcl ?_
  refine lv_astore (lv' := [(5, .ref q9), (0, .ref (ad o)), (1, .int st), (2, .int gr), (3, .int sl), (4, .ref ou)]) hx hb dL_groupItem_19 hl (by decide) rfl (fun ls hl => ?_)
  refine lv_iconst (v := 2) hx hb dL_groupItem_21 (by decide) ?_
  exact ca_iret hx hb hr hlk hS hP (by first | with_reducible rfl | (simp only [sld_eq, ↓reduceIte]; done)) (by first | with_reducible rfl | (simp only [sld_eq, ↓reduceIte]; done)) dL_groupItem_22

set_option maxHeartbeats 4000000 in
set_option maxRecDepth 100000 in
theorem k_L_prioritySize (l : Launch) (G : GT) (ad : Nat → Nat) (o : Nat) (sg : RRT) (st : Int32) (ou : Nat) (fo : Nat → Int64) (h0 : okA st 0 2) : Ca l yL_prioritySize wsL_prioritySize { frames := 8, cells := 1, slots := 6, locals := 157 } G ([(ou, .inl (G.2.2.2, 1, .inr (.inl fo)))] ++ (wRR G ad o sg)) ([(ou, .inl (G.2.2.2, 1, .inr (.inl (vp_updL fo (0 : Int32).toNatClampNeg (priSampled (rrPri sg st)).toInt64))))] ++ (wRR G ad o (rrMP sg st))) [.ref (ad o), .int st, .ref ou] (some (.int 0)) := by
  intro sz
  refine met_ofWH (cc := cL_prioritySize) (maxL := 4) (ret := (some .int)) (hh := [(0, 9, 12, 13)]) (by decide) rfl ?_
  intro p e s m args below meth c s₁ B hml hv
  obtain ⟨rfl, hsz, hP, hY, hD0, hZ0⟩ := hv
  subst hsz
  have hD := hD0.self (sz := s.heap.size)
  generalize hAe : va_A ([(ou, .inl (G.2.2.2, 1, .inr (.inl fo)))] ++ (wRR G ad o sg)) s.heap.size = A at hD hZ0 ⊢
  have hZ : Zs A s s.heap := hZ0
  have hA : ∀ q : Nat, s.heap.size ≤ q → A q := fun q h => by rw [← hAe]; exact Or.inr h
  have hS : va_S A s.heap s.heap [] := va_S.rf
  have hx := B.exec
  have hb := B.bytes
  have hr := B.returns
  have hts := atoms_spec (ws := wsL_prioritySize) B.pre
  have hown : s.vm.findClass RL = some m.cls := findClass_of_methodNamed B.named
  have hlk := B.notSynchronized
  have CF : CallFix p m c cL_prioritySize 4 s _ wsL_prioritySize RL := ⟨hx, hb, hml, hown, hts⟩
  have hl := lv_entry ([.ref (ad o), .int st, .ref ou]) (n := 4) (Nat.le_of_ble_eq_true rfl)
  rw [lg_entry_eq]
  generalize (lg_sl ([.ref (ad o), .int st, .ref ou]) ++ List.replicate (4 - (lg_sl ([.ref (ad o), .int st, .ref ou])).length) Slot.unset).toArray = ls at hl ⊢
  have hl : lv_has ls 4 [(0, .ref (ad o)), (1, .int st), (2, .ref ou)] := hl
  refine lv_aload_n hx hb dL_prioritySize_0 rfl (lv_at hl 2 rfl) ?_
  refine lv_iconst (v := 0) hx hb dL_prioritySize_1 (by decide) ?_
  refine lv_aload_n hx hb dL_prioritySize_2 rfl (lv_at hl 0 rfl) ?_
  refine lv_iload_n hx hb dL_prioritySize_3 rfl (lv_at hl 1 rfl) ?_
  have hP9 := hP
  have hD9 := hD
  rw [← List.append_nil (wRR G ad o sg)] at hP9 hD9
  refine wrV [(ou, .inl (G.2.2.2, 1, .inr (.inl fo)))] (wRR G ad o sg) [] (wRR G ad o (rrMP sg st)) (As := [.int st]) (rest := [.int 0, .ref ou]) CF (k_X6_prioritySize l G ad o sg st h0) (cwV 1 hts gL_prioritySize_X6_prioritySize rfl rfl rfl (by decide +kernel) ⟨Nat.le_of_ble_eq_true rfl, Nat.le_of_ble_eq_true rfl⟩) hP9 hD9 hS hA hY rfl rfl (fst_RR _ _ _ _ _) rfl hl.1 rfl (lv_room (Nat.le_of_ble_eq_true rfl)) dL_prioritySize_4 ⟨Nat.zero_le _, Nat.zero_le _⟩ (fun H locs hP hD hS => ?_)
  rw [List.append_nil] at hP hD
  have hP : va_P G.1 vwCl ([(ou, .inl (G.2.2.2, 1, .inr (.inl fo)))] ++ (wRR G ad o (rrMP sg st))) H := hP
  have hD : va_D A ([(ou, .inl (G.2.2.2, 1, .inr (.inl fo)))] ++ (wRR G ad o (rrMP sg st))) := hD
  refine lv_i2l hx hb dL_prioritySize_7 rfl ?_
  refine va_last hx hb hY.1 hP hD hS 0 2 rfl rfl vp_0_1 dL_prioritySize_8 (fun H locs hP hD hS => ?_)
  have hP : va_P G.1 vwCl ([(ou, .inl (G.2.2.2, 1, .inr (.inl (vp_updL fo (0 : Int32).toNatClampNeg ((priSampled (rrPri sg st)).toInt64)))))] ++ (wRR G ad o (rrMP sg st))) H := hP
  have hD : va_D A ([(ou, .inl (G.2.2.2, 1, .inr (.inl (vp_updL fo (0 : Int32).toNatClampNeg ((priSampled (rrPri sg st)).toInt64)))))] ++ (wRR G ad o (rrMP sg st))) := hD
  refine lv_goto (tgt := 15) hx hb dL_prioritySize_9 (by decide) ?_
  refine lv_iconst (v := 0) hx hb dL_prioritySize_15 (by decide) ?_
  refine W.widen (k := 1) (n := 6) (Nat.zero_le _) (Nat.zero_le _) ?_
  exact ca_iret hx hb hr hlk hS hP (by first | with_reducible rfl | (simp only [sld_eq, ↓reduceIte]; done)) (by first | with_reducible rfl | (simp only [sld_eq, ↓reduceIte]; done)) dL_prioritySize_16

set_option maxHeartbeats 4000000 in
set_option maxRecDepth 100000 in
theorem k1_L_prioritySize (l : Launch) (hl0 : l.stackTraces = false) (G : GT) (ad : Nat → Nat) (o : Nat) (sg : RRT) (st : Int32) (ou : Nat) (fo : Nat → Int64) (hk : ¬ (okA st 0 2)) : Ca l yL_prioritySize wsL_prioritySize { frames := 8, cells := 1, slots := 6, locals := 157 } G ([(ou, .inl (G.2.2.2, 1, .inr (.inl fo)))] ++ (wRR G ad o sg)) ([(ou, .inl (G.2.2.2, 1, .inr (.inl fo)))] ++ (wRR G ad o sg)) [.ref (ad o), .int st, .ref ou] (some (.int 1)) := by
  intro sz
  refine met_ofWH (cc := cL_prioritySize) (maxL := 4) (ret := (some .int)) (hh := [(0, 9, 12, 13)]) (by decide) rfl ?_
  intro p e s m args below meth c s₁ B hml hv
  obtain ⟨rfl, hsz, hP, hY, hD0, hZ0⟩ := hv
  subst hsz
  have hD := hD0.self (sz := s.heap.size)
  generalize hAe : va_A ([(ou, .inl (G.2.2.2, 1, .inr (.inl fo)))] ++ (wRR G ad o sg)) s.heap.size = A at hD hZ0 ⊢
  have hZ : Zs A s s.heap := hZ0
  have hA : ∀ q : Nat, s.heap.size ≤ q → A q := fun q h => by rw [← hAe]; exact Or.inr h
  have hS : va_S A s.heap s.heap [] := va_S.rf
  have hx := B.exec
  have hb := B.bytes
  have hr := B.returns
  have hts := atoms_spec (ws := wsL_prioritySize) B.pre
  have hown : s.vm.findClass RL = some m.cls := findClass_of_methodNamed B.named
  have hlk := B.notSynchronized
  have CF : CallFix p m c cL_prioritySize 4 s _ wsL_prioritySize RL := ⟨hx, hb, hml, hown, hts⟩
  have kx0 := hts (.classLink RL 13 "java/lang/IllegalArgumentException") (List.mem_cons_of_mem _ (List.mem_append_left _ (List.mem_append_left _ (List.mem_append_left _ (List.mem_append_left _ (List.mem_append_left _ (List.mem_of_getElem? (i := 0) rfl)))))))
  have htab := vx_table (x := yL_prioritySize) B (hts (.codeWith yL_prioritySize cL_prioritySize 4 (some .int) [(0, 9, 12, 13)]) List.mem_cons_self)
  have hl := lv_entry ([.ref (ad o), .int st, .ref ou]) (n := 4) (Nat.le_of_ble_eq_true rfl)
  rw [lg_entry_eq]
  generalize (lg_sl ([.ref (ad o), .int st, .ref ou]) ++ List.replicate (4 - (lg_sl ([.ref (ad o), .int st, .ref ou])).length) Slot.unset).toArray = ls at hl ⊢
  have hl : lv_has ls 4 [(0, .ref (ad o)), (1, .int st), (2, .ref ou)] := hl
  refine lv_aload_n hx hb dL_prioritySize_0 rfl (lv_at hl 2 rfl) ?_
  refine lv_iconst (v := 0) hx hb dL_prioritySize_1 (by decide) ?_
  refine lv_aload_n hx hb dL_prioritySize_2 rfl (lv_at hl 0 rfl) ?_
  refine lv_iload_n hx hb dL_prioritySize_3 rfl (lv_at hl 1 rfl) ?_
  have hP9 := hP
  have hD9 := hD
  rw [← List.append_nil (wRR G ad o sg)] at hP9 hD9
  refine noV [(ou, .inl (G.2.2.2, 1, .inr (.inl fo)))] (wRR G ad o sg) [] (wRR G ad o sg) (As := [.int st]) (rest := [.int 0, .ref ou]) CF (kn_X6_prioritySize l hl0 G ad o sg st hk) (cwV 1 hts gL_prioritySize_X6_prioritySize rfl rfl rfl (by decide +kernel) ⟨Nat.le_of_ble_eq_true rfl, Nat.le_of_ble_eq_true rfl⟩) hP9 hD9 hS hA hY hZ rfl rfl (fst_RR _ _ _ _ _) rfl hl.1 rfl (lv_room (Nat.le_of_ble_eq_true rfl)) dL_prioritySize_4 ⟨Nat.le_of_ble_eq_true rfl, Nat.le_of_ble_eq_true rfl⟩ (fun ce q9 H locs hP hD hS hce hcv hcl => ?_)
  rw [List.append_nil] at hP hD
  have hP : va_P G.1 vwCl ([(ou, .inl (G.2.2.2, 1, .inr (.inl fo)))] ++ (wRR G ad o sg)) H := hP
  have hD : va_D A ([(ou, .inl (G.2.2.2, 1, .inr (.inl fo)))] ++ (wRR G ad o sg)) := hD
  refine vx_catch (own := RL) (name := "java/lang/IllegalArgumentException") hown [] ⟨0, 9, 12, 13⟩ [] htab (fun z hz => nomatch hz) rfl (by decide) kx0 (va_Nw.use rfl (hY.2.1 (.castable "java/lang/IllegalArgumentException" "java/lang/IllegalArgumentException") (List.mem_of_getElem? (i := 39) rfl))) hce hcv hcl ?_
  refine lv_astore_n (lv' := [(3, .ref q9), (0, .ref (ad o)), (1, .int st), (2, .ref ou)]) hx hb dL_prioritySize_12 rfl hl (by decide) rfl (fun ls hl => ?_)
  refine lv_iconst (v := 1) hx hb dL_prioritySize_13 (by decide) ?_
  exact ca_iret hx hb hr hlk hS hP (by first | with_reducible rfl | (simp only [sld_eq, ↓reduceIte]; done)) (by first | with_reducible rfl | (simp only [sld_eq, ↓reduceIte]; done)) dL_prioritySize_14

set_option maxHeartbeats 4000000 in
set_option maxRecDepth 100000 in
theorem k_L_priorityItem (l : Launch) (G : GT) (ad : Nat → Nat) (o : Nat) (sg : RRT) (st sl : Int32) (ou : Nat) (fo : Nat → Int64) (h0 : okA st 0 2) (hs : okP sl (priSampled (rrPri sg st))) : Ca l yL_priorityItem wsL_priorityItem { frames := 8, cells := 1, slots := 6, locals := 159 } G ([(ou, .inl (G.2.2.2, 1, .inr (.inl fo)))] ++ (wRR G ad o sg)) ([(ou, .inl (G.2.2.2, 1, .inr (.inl (vp_updL fo (0 : Int32).toNatClampNeg (at_ 17 (rrPri sg st).2.2.1 sl).toInt64))))] ++ (wRR G ad o (rrMP sg st))) [.ref (ad o), .int st, .int sl, .ref ou] (some (.int 0)) := by
  intro sz
  refine met_ofWH (cc := cL_priorityItem) (maxL := 5) (ret := (some .int)) (hh := [(0, 10, 13, 13), (0, 10, 17, 38)]) (by decide) rfl ?_
  intro p e s m args below meth c s₁ B hml hv
  obtain ⟨rfl, hsz, hP, hY, hD0, hZ0⟩ := hv
  subst hsz
  have hD := hD0.self (sz := s.heap.size)
  generalize hAe : va_A ([(ou, .inl (G.2.2.2, 1, .inr (.inl fo)))] ++ (wRR G ad o sg)) s.heap.size = A at hD hZ0 ⊢
  have hZ : Zs A s s.heap := hZ0
  have hA : ∀ q : Nat, s.heap.size ≤ q → A q := fun q h => by rw [← hAe]; exact Or.inr h
  have hS : va_S A s.heap s.heap [] := va_S.rf
  have hx := B.exec
  have hb := B.bytes
  have hr := B.returns
  have hts := atoms_spec (ws := wsL_priorityItem) B.pre
  have hown : s.vm.findClass RL = some m.cls := findClass_of_methodNamed B.named
  have hlk := B.notSynchronized
  have CF : CallFix p m c cL_priorityItem 5 s _ wsL_priorityItem RL := ⟨hx, hb, hml, hown, hts⟩
  have hl := lv_entry ([.ref (ad o), .int st, .int sl, .ref ou]) (n := 5) (Nat.le_of_ble_eq_true rfl)
  rw [lg_entry_eq]
  generalize (lg_sl ([.ref (ad o), .int st, .int sl, .ref ou]) ++ List.replicate (5 - (lg_sl ([.ref (ad o), .int st, .int sl, .ref ou])).length) Slot.unset).toArray = ls at hl ⊢
  have hl : lv_has ls 5 [(0, .ref (ad o)), (1, .int st), (2, .int sl), (3, .ref ou)] := hl
  refine lv_aload_n hx hb dL_priorityItem_0 rfl (lv_at hl 3 rfl) ?_
  refine lv_iconst (v := 0) hx hb dL_priorityItem_1 (by decide) ?_
  refine lv_aload_n hx hb dL_priorityItem_2 rfl (lv_at hl 0 rfl) ?_
  refine lv_iload_n hx hb dL_priorityItem_3 rfl (lv_at hl 1 rfl) ?_
  refine lv_iload_n hx hb dL_priorityItem_4 rfl (lv_at hl 2 rfl) ?_
  have hP9 := hP
  have hD9 := hD
  rw [← List.append_nil (wRR G ad o sg)] at hP9 hD9
  refine wrV [(ou, .inl (G.2.2.2, 1, .inr (.inl fo)))] (wRR G ad o sg) [] (wRR G ad o (rrMP sg st)) (As := [.int st, .int sl]) (rest := [.int 0, .ref ou]) CF (k_X6_priorityItem l G ad o sg st sl h0 hs) (cwV 2 hts gL_priorityItem_X6_priorityItem rfl rfl rfl (by decide +kernel) ⟨Nat.le_of_ble_eq_true rfl, Nat.le_of_ble_eq_true rfl⟩) hP9 hD9 hS hA hY rfl rfl (fst_RR _ _ _ _ _) rfl hl.1 rfl (lv_room (Nat.le_of_ble_eq_true rfl)) dL_priorityItem_5 ⟨Nat.zero_le _, Nat.zero_le _⟩ (fun H locs hP hD hS => ?_)
  rw [List.append_nil] at hP hD
  have hP : va_P G.1 vwCl ([(ou, .inl (G.2.2.2, 1, .inr (.inl fo)))] ++ (wRR G ad o (rrMP sg st))) H := hP
  have hD : va_D A ([(ou, .inl (G.2.2.2, 1, .inr (.inl fo)))] ++ (wRR G ad o (rrMP sg st))) := hD
  refine lv_i2l hx hb dL_priorityItem_8 rfl ?_
  refine va_last hx hb hY.1 hP hD hS 0 2 rfl rfl vp_0_1 dL_priorityItem_9 (fun H locs hP hD hS => ?_)
  have hP : va_P G.1 vwCl ([(ou, .inl (G.2.2.2, 1, .inr (.inl (vp_updL fo (0 : Int32).toNatClampNeg ((at_ 17 (rrPri sg st).2.2.1 sl).toInt64)))))] ++ (wRR G ad o (rrMP sg st))) H := hP
  have hD : va_D A ([(ou, .inl (G.2.2.2, 1, .inr (.inl (vp_updL fo (0 : Int32).toNatClampNeg ((at_ 17 (rrPri sg st).2.2.1 sl).toInt64)))))] ++ (wRR G ad o (rrMP sg st))) := hD
  refine lv_goto (tgt := 21) hx hb dL_priorityItem_10 (by decide) ?_
  refine lv_iconst (v := 0) hx hb dL_priorityItem_21 (by decide) ?_
  refine W.widen (k := 1) (n := 6) (Nat.zero_le _) (Nat.zero_le _) ?_
  exact ca_iret hx hb hr hlk hS hP (by first | with_reducible rfl | (simp only [sld_eq, ↓reduceIte]; done)) (by first | with_reducible rfl | (simp only [sld_eq, ↓reduceIte]; done)) dL_priorityItem_22

set_option maxHeartbeats 4000000 in
set_option maxRecDepth 100000 in
theorem k1_L_priorityItem (l : Launch) (hl0 : l.stackTraces = false) (G : GT) (ad : Nat → Nat) (o : Nat) (sg : RRT) (st sl : Int32) (ou : Nat) (fo : Nat → Int64) (hk : ¬ (okA st 0 2)) : Ca l yL_priorityItem wsL_priorityItem { frames := 8, cells := 1, slots := 6, locals := 159 } G ([(ou, .inl (G.2.2.2, 1, .inr (.inl fo)))] ++ (wRR G ad o sg)) ([(ou, .inl (G.2.2.2, 1, .inr (.inl fo)))] ++ (wRR G ad o sg)) [.ref (ad o), .int st, .int sl, .ref ou] (some (.int 1)) := by
  intro sz
  refine met_ofWH (cc := cL_priorityItem) (maxL := 5) (ret := (some .int)) (hh := [(0, 10, 13, 13), (0, 10, 17, 38)]) (by decide) rfl ?_
  intro p e s m args below meth c s₁ B hml hv
  obtain ⟨rfl, hsz, hP, hY, hD0, hZ0⟩ := hv
  subst hsz
  have hD := hD0.self (sz := s.heap.size)
  generalize hAe : va_A ([(ou, .inl (G.2.2.2, 1, .inr (.inl fo)))] ++ (wRR G ad o sg)) s.heap.size = A at hD hZ0 ⊢
  have hZ : Zs A s s.heap := hZ0
  have hA : ∀ q : Nat, s.heap.size ≤ q → A q := fun q h => by rw [← hAe]; exact Or.inr h
  have hS : va_S A s.heap s.heap [] := va_S.rf
  have hx := B.exec
  have hb := B.bytes
  have hr := B.returns
  have hts := atoms_spec (ws := wsL_priorityItem) B.pre
  have hown : s.vm.findClass RL = some m.cls := findClass_of_methodNamed B.named
  have hlk := B.notSynchronized
  have CF : CallFix p m c cL_priorityItem 5 s _ wsL_priorityItem RL := ⟨hx, hb, hml, hown, hts⟩
  have kx0 := hts (.classLink RL 13 "java/lang/IllegalArgumentException") (List.mem_cons_of_mem _ (List.mem_append_left _ (List.mem_append_left _ (List.mem_append_left _ (List.mem_append_left _ (List.mem_append_left _ (List.mem_append_left _ (List.mem_of_getElem? (i := 0) rfl))))))))
  have htab := vx_table (x := yL_priorityItem) B (hts (.codeWith yL_priorityItem cL_priorityItem 5 (some .int) [(0, 10, 13, 13), (0, 10, 17, 38)]) List.mem_cons_self)
  have hl := lv_entry ([.ref (ad o), .int st, .int sl, .ref ou]) (n := 5) (Nat.le_of_ble_eq_true rfl)
  rw [lg_entry_eq]
  generalize (lg_sl ([.ref (ad o), .int st, .int sl, .ref ou]) ++ List.replicate (5 - (lg_sl ([.ref (ad o), .int st, .int sl, .ref ou])).length) Slot.unset).toArray = ls at hl ⊢
  have hl : lv_has ls 5 [(0, .ref (ad o)), (1, .int st), (2, .int sl), (3, .ref ou)] := hl
  refine lv_aload_n hx hb dL_priorityItem_0 rfl (lv_at hl 3 rfl) ?_
  refine lv_iconst (v := 0) hx hb dL_priorityItem_1 (by decide) ?_
  refine lv_aload_n hx hb dL_priorityItem_2 rfl (lv_at hl 0 rfl) ?_
  refine lv_iload_n hx hb dL_priorityItem_3 rfl (lv_at hl 1 rfl) ?_
  refine lv_iload_n hx hb dL_priorityItem_4 rfl (lv_at hl 2 rfl) ?_
  have hP9 := hP
  have hD9 := hD
  rw [← List.append_nil (wRR G ad o sg)] at hP9 hD9
  refine noV [(ou, .inl (G.2.2.2, 1, .inr (.inl fo)))] (wRR G ad o sg) [] (wRR G ad o sg) (As := [.int st, .int sl]) (rest := [.int 0, .ref ou]) CF (kn_X6_priorityItem l hl0 G ad o sg st sl hk) (cwV 2 hts gL_priorityItem_X6_priorityItem rfl rfl rfl (by decide +kernel) ⟨Nat.le_of_ble_eq_true rfl, Nat.le_of_ble_eq_true rfl⟩) hP9 hD9 hS hA hY hZ rfl rfl (fst_RR _ _ _ _ _) rfl hl.1 rfl (lv_room (Nat.le_of_ble_eq_true rfl)) dL_priorityItem_5 ⟨Nat.le_of_ble_eq_true rfl, Nat.le_of_ble_eq_true rfl⟩ (fun ce q9 H locs hP hD hS hce hcv hcl => ?_)
  rw [List.append_nil] at hP hD
  have hP : va_P G.1 vwCl ([(ou, .inl (G.2.2.2, 1, .inr (.inl fo)))] ++ (wRR G ad o sg)) H := hP
  have hD : va_D A ([(ou, .inl (G.2.2.2, 1, .inr (.inl fo)))] ++ (wRR G ad o sg)) := hD
  refine vx_catch (own := RL) (name := "java/lang/IllegalArgumentException") hown [] ⟨0, 10, 13, 13⟩ [⟨0, 10, 17, 38⟩] htab (fun z hz => nomatch hz) rfl (by decide) kx0 (va_Nw.use rfl (hY.2.1 (.castable "java/lang/IllegalArgumentException" "java/lang/IllegalArgumentException") (List.mem_of_getElem? (i := 39) rfl))) hce hcv hcl ?_
  refine lv_astore (lv' := [(4, .ref q9), (0, .ref (ad o)), (1, .int st), (2, .int sl), (3, .ref ou)]) hx hb dL_priorityItem_13 hl (by decide) rfl (fun ls hl => ?_)
  refine lv_iconst (v := 1) hx hb dL_priorityItem_15 (by decide) ?_
  exact ca_iret hx hb hr hlk hS hP (by first | with_reducible rfl | (simp only [sld_eq, ↓reduceIte]; done)) (by first | with_reducible rfl | (simp only [sld_eq, ↓reduceIte]; done)) dL_priorityItem_16

set_option maxHeartbeats 4000000 in
set_option maxRecDepth 100000 in
theorem k2_L_priorityItem (l : Launch) (hl0 : l.stackTraces = false) (G : GT) (ad : Nat → Nat) (o : Nat) (sg : RRT) (st sl : Int32) (ou : Nat) (fo : Nat → Int64) (h0 : okA st 0 2) (hs : ¬ okP sl (priSampled (rrPri sg st))) : Ca l yL_priorityItem wsL_priorityItem { frames := 8, cells := 1, slots := 6, locals := 159 } G ([(ou, .inl (G.2.2.2, 1, .inr (.inl fo)))] ++ (wRR G ad o sg)) ([(ou, .inl (G.2.2.2, 1, .inr (.inl fo)))] ++ (wRR G ad o (rrMP sg st))) [.ref (ad o), .int st, .int sl, .ref ou] (some (.int 2)) := by
  intro sz
  refine met_ofWH (cc := cL_priorityItem) (maxL := 5) (ret := (some .int)) (hh := [(0, 10, 13, 13), (0, 10, 17, 38)]) (by decide) rfl ?_
  intro p e s m args below meth c s₁ B hml hv
  obtain ⟨rfl, hsz, hP, hY, hD0, hZ0⟩ := hv
  subst hsz
  have hD := hD0.self (sz := s.heap.size)
  generalize hAe : va_A ([(ou, .inl (G.2.2.2, 1, .inr (.inl fo)))] ++ (wRR G ad o sg)) s.heap.size = A at hD hZ0 ⊢
  have hZ : Zs A s s.heap := hZ0
  have hA : ∀ q : Nat, s.heap.size ≤ q → A q := fun q h => by rw [← hAe]; exact Or.inr h
  have hS : va_S A s.heap s.heap [] := va_S.rf
  have hx := B.exec
  have hb := B.bytes
  have hr := B.returns
  have hts := atoms_spec (ws := wsL_priorityItem) B.pre
  have hown : s.vm.findClass RL = some m.cls := findClass_of_methodNamed B.named
  have hlk := B.notSynchronized
  have CF : CallFix p m c cL_priorityItem 5 s _ wsL_priorityItem RL := ⟨hx, hb, hml, hown, hts⟩
  have kx1 := hts (.classLink RL 38 "java/lang/IndexOutOfBoundsException") (List.mem_cons_of_mem _ (List.mem_append_left _ (List.mem_append_left _ (List.mem_append_left _ (List.mem_append_left _ (List.mem_append_left _ (List.mem_append_left _ (List.mem_of_getElem? (i := 1) rfl))))))))
  have kx0 := hts (.classLink RL 13 "java/lang/IllegalArgumentException") (List.mem_cons_of_mem _ (List.mem_append_left _ (List.mem_append_left _ (List.mem_append_left _ (List.mem_append_left _ (List.mem_append_left _ (List.mem_append_left _ (List.mem_of_getElem? (i := 0) rfl))))))))
  have htab := vx_table (x := yL_priorityItem) B (hts (.codeWith yL_priorityItem cL_priorityItem 5 (some .int) [(0, 10, 13, 13), (0, 10, 17, 38)]) List.mem_cons_self)
  have hl := lv_entry ([.ref (ad o), .int st, .int sl, .ref ou]) (n := 5) (Nat.le_of_ble_eq_true rfl)
  rw [lg_entry_eq]
  generalize (lg_sl ([.ref (ad o), .int st, .int sl, .ref ou]) ++ List.replicate (5 - (lg_sl ([.ref (ad o), .int st, .int sl, .ref ou])).length) Slot.unset).toArray = ls at hl ⊢
  have hl : lv_has ls 5 [(0, .ref (ad o)), (1, .int st), (2, .int sl), (3, .ref ou)] := hl
  refine lv_aload_n hx hb dL_priorityItem_0 rfl (lv_at hl 3 rfl) ?_
  refine lv_iconst (v := 0) hx hb dL_priorityItem_1 (by decide) ?_
  refine lv_aload_n hx hb dL_priorityItem_2 rfl (lv_at hl 0 rfl) ?_
  refine lv_iload_n hx hb dL_priorityItem_3 rfl (lv_at hl 1 rfl) ?_
  refine lv_iload_n hx hb dL_priorityItem_4 rfl (lv_at hl 2 rfl) ?_
  have hP9 := hP
  have hD9 := hD
  rw [← List.append_nil (wRR G ad o sg)] at hP9 hD9
  refine noV [(ou, .inl (G.2.2.2, 1, .inr (.inl fo)))] (wRR G ad o sg) [] (wRR G ad o (rrMP sg st)) (As := [.int st, .int sl]) (rest := [.int 0, .ref ou]) CF (kn2_X6_priorityItem l hl0 G ad o sg st sl h0 hs) (cwV 2 hts gL_priorityItem_X6_priorityItem rfl rfl rfl (by decide +kernel) ⟨Nat.le_of_ble_eq_true rfl, Nat.le_of_ble_eq_true rfl⟩) hP9 hD9 hS hA hY hZ rfl rfl (fst_RR _ _ _ _ _) rfl hl.1 rfl (lv_room (Nat.le_of_ble_eq_true rfl)) dL_priorityItem_5 ⟨Nat.le_of_ble_eq_true rfl, Nat.le_of_ble_eq_true rfl⟩ (fun ce q9 H locs hP hD hS hce hcv hcl => ?_)
  rw [List.append_nil] at hP hD
  have hP : va_P G.1 vwCl ([(ou, .inl (G.2.2.2, 1, .inr (.inl fo)))] ++ (wRR G ad o (rrMP sg st))) H := hP
  have hD : va_D A ([(ou, .inl (G.2.2.2, 1, .inr (.inl fo)))] ++ (wRR G ad o (rrMP sg st))) := hD
  refine vx_catch (own := RL) (name := "java/lang/IndexOutOfBoundsException") hown [⟨0, 10, 13, 13⟩] ⟨0, 10, 17, 38⟩ [] htab (fun z hz => by rcases List.mem_singleton.mp hz with rfl; exact Or.inr ⟨by decide, _, kx0, hY.2.2.1 ("java/lang/IndexOutOfBoundsException", "java/lang/IllegalArgumentException") (List.mem_of_getElem? (i := 1) rfl)⟩) rfl (by decide) kx1 (va_Nw.use rfl (hY.2.1 (.castable "java/lang/IndexOutOfBoundsException" "java/lang/IndexOutOfBoundsException") (List.mem_of_getElem? (i := 41) rfl))) hce hcv hcl ?_
  refine lv_astore (lv' := [(4, .ref q9), (0, .ref (ad o)), (1, .int st), (2, .int sl), (3, .ref ou)]) hx hb dL_priorityItem_17 hl (by decide) rfl (fun ls hl => ?_)
  refine lv_iconst (v := 2) hx hb dL_priorityItem_19 (by decide) ?_
  exact ca_iret hx hb hr hlk hS hP (by first | with_reducible rfl | (simp only [sld_eq, ↓reduceIte]; done)) (by first | with_reducible rfl | (simp only [sld_eq, ↓reduceIte]; done)) dL_priorityItem_20

set_option maxHeartbeats 4000000 in
set_option maxRecDepth 100000 in
theorem k_L_estimatedWeight (l : Launch) (G : GT) (ad : Nat → Nat) (o : Nat) (sg : RRT) (st sl : Int32) (ou : Nat) (fo : Nat → Int64) (h0 : okA st 0 2) (hs : okP sl (priSampled (rrPri sg st))) : Ca l yL_estimatedWeight wsL_estimatedWeight { frames := 8, cells := 1, slots := 6, locals := 159 } G ([(ou, .inl (G.2.2.2, 1, .inr (.inl fo)))] ++ (wRR G ad o sg)) ([(ou, .inl (G.2.2.2, 1, .inr (.inl (vp_updL fo (0 : Int32).toNatClampNeg (priEst (rrPri sg st) sl)))))] ++ (wRR G ad o (rrMP sg st))) [.ref (ad o), .int st, .int sl, .ref ou] (some (.int 0)) := by
  intro sz
  refine met_ofWH (cc := cL_estimatedWeight) (maxL := 5) (ret := (some .int)) (hh := [(0, 9, 12, 13), (0, 9, 16, 38)]) (by decide) rfl ?_
  intro p e s m args below meth c s₁ B hml hv
  obtain ⟨rfl, hsz, hP, hY, hD0, hZ0⟩ := hv
  subst hsz
  have hD := hD0.self (sz := s.heap.size)
  generalize hAe : va_A ([(ou, .inl (G.2.2.2, 1, .inr (.inl fo)))] ++ (wRR G ad o sg)) s.heap.size = A at hD hZ0 ⊢
  have hZ : Zs A s s.heap := hZ0
  have hA : ∀ q : Nat, s.heap.size ≤ q → A q := fun q h => by rw [← hAe]; exact Or.inr h
  have hS : va_S A s.heap s.heap [] := va_S.rf
  have hx := B.exec
  have hb := B.bytes
  have hr := B.returns
  have hts := atoms_spec (ws := wsL_estimatedWeight) B.pre
  have hown : s.vm.findClass RL = some m.cls := findClass_of_methodNamed B.named
  have hlk := B.notSynchronized
  have CF : CallFix p m c cL_estimatedWeight 5 s _ wsL_estimatedWeight RL := ⟨hx, hb, hml, hown, hts⟩
  have hl := lv_entry ([.ref (ad o), .int st, .int sl, .ref ou]) (n := 5) (Nat.le_of_ble_eq_true rfl)
  rw [lg_entry_eq]
  generalize (lg_sl ([.ref (ad o), .int st, .int sl, .ref ou]) ++ List.replicate (5 - (lg_sl ([.ref (ad o), .int st, .int sl, .ref ou])).length) Slot.unset).toArray = ls at hl ⊢
  have hl : lv_has ls 5 [(0, .ref (ad o)), (1, .int st), (2, .int sl), (3, .ref ou)] := hl
  refine lv_aload_n hx hb dL_estimatedWeight_0 rfl (lv_at hl 3 rfl) ?_
  refine lv_iconst (v := 0) hx hb dL_estimatedWeight_1 (by decide) ?_
  refine lv_aload_n hx hb dL_estimatedWeight_2 rfl (lv_at hl 0 rfl) ?_
  refine lv_iload_n hx hb dL_estimatedWeight_3 rfl (lv_at hl 1 rfl) ?_
  refine lv_iload_n hx hb dL_estimatedWeight_4 rfl (lv_at hl 2 rfl) ?_
  have hP9 := hP
  have hD9 := hD
  rw [← List.append_nil (wRR G ad o sg)] at hP9 hD9
  refine wrV [(ou, .inl (G.2.2.2, 1, .inr (.inl fo)))] (wRR G ad o sg) [] (wRR G ad o (rrMP sg st)) (As := [.int st, .int sl]) (rest := [.int 0, .ref ou]) CF (k_X6_estimatedWeight l G ad o sg st sl h0 hs) (cwV 2 hts gL_estimatedWeight_X6_estimatedWeight rfl rfl rfl (by decide +kernel) ⟨Nat.le_of_ble_eq_true rfl, Nat.le_of_ble_eq_true rfl⟩) hP9 hD9 hS hA hY rfl rfl (fst_RR _ _ _ _ _) rfl hl.1 rfl (lv_room (Nat.le_of_ble_eq_true rfl)) dL_estimatedWeight_5 ⟨Nat.zero_le _, Nat.zero_le _⟩ (fun H locs hP hD hS => ?_)
  rw [List.append_nil] at hP hD
  have hP : va_P G.1 vwCl ([(ou, .inl (G.2.2.2, 1, .inr (.inl fo)))] ++ (wRR G ad o (rrMP sg st))) H := hP
  have hD : va_D A ([(ou, .inl (G.2.2.2, 1, .inr (.inl fo)))] ++ (wRR G ad o (rrMP sg st))) := hD
  refine va_last hx hb hY.1 hP hD hS 0 2 rfl rfl vp_0_1 dL_estimatedWeight_8 (fun H locs hP hD hS => ?_)
  have hP : va_P G.1 vwCl ([(ou, .inl (G.2.2.2, 1, .inr (.inl (vp_updL fo (0 : Int32).toNatClampNeg (priEst (rrPri sg st) sl)))))] ++ (wRR G ad o (rrMP sg st))) H := hP
  have hD : va_D A ([(ou, .inl (G.2.2.2, 1, .inr (.inl (vp_updL fo (0 : Int32).toNatClampNeg (priEst (rrPri sg st) sl)))))] ++ (wRR G ad o (rrMP sg st))) := hD
  refine lv_goto (tgt := 20) hx hb dL_estimatedWeight_9 (by decide) ?_
  refine lv_iconst (v := 0) hx hb dL_estimatedWeight_20 (by decide) ?_
  refine W.widen (k := 1) (n := 6) (Nat.zero_le _) (Nat.zero_le _) ?_
  exact ca_iret hx hb hr hlk hS hP (by first | with_reducible rfl | (simp only [sld_eq, ↓reduceIte]; done)) (by first | with_reducible rfl | (simp only [sld_eq, ↓reduceIte]; done)) dL_estimatedWeight_21

set_option maxHeartbeats 4000000 in
set_option maxRecDepth 100000 in
theorem k1_L_estimatedWeight (l : Launch) (hl0 : l.stackTraces = false) (G : GT) (ad : Nat → Nat) (o : Nat) (sg : RRT) (st sl : Int32) (ou : Nat) (fo : Nat → Int64) (hk : ¬ (okA st 0 2)) : Ca l yL_estimatedWeight wsL_estimatedWeight { frames := 8, cells := 1, slots := 6, locals := 159 } G ([(ou, .inl (G.2.2.2, 1, .inr (.inl fo)))] ++ (wRR G ad o sg)) ([(ou, .inl (G.2.2.2, 1, .inr (.inl fo)))] ++ (wRR G ad o sg)) [.ref (ad o), .int st, .int sl, .ref ou] (some (.int 1)) := by
  intro sz
  refine met_ofWH (cc := cL_estimatedWeight) (maxL := 5) (ret := (some .int)) (hh := [(0, 9, 12, 13), (0, 9, 16, 38)]) (by decide) rfl ?_
  intro p e s m args below meth c s₁ B hml hv
  obtain ⟨rfl, hsz, hP, hY, hD0, hZ0⟩ := hv
  subst hsz
  have hD := hD0.self (sz := s.heap.size)
  generalize hAe : va_A ([(ou, .inl (G.2.2.2, 1, .inr (.inl fo)))] ++ (wRR G ad o sg)) s.heap.size = A at hD hZ0 ⊢
  have hZ : Zs A s s.heap := hZ0
  have hA : ∀ q : Nat, s.heap.size ≤ q → A q := fun q h => by rw [← hAe]; exact Or.inr h
  have hS : va_S A s.heap s.heap [] := va_S.rf
  have hx := B.exec
  have hb := B.bytes
  have hr := B.returns
  have hts := atoms_spec (ws := wsL_estimatedWeight) B.pre
  have hown : s.vm.findClass RL = some m.cls := findClass_of_methodNamed B.named
  have hlk := B.notSynchronized
  have CF : CallFix p m c cL_estimatedWeight 5 s _ wsL_estimatedWeight RL := ⟨hx, hb, hml, hown, hts⟩
  have kx0 := hts (.classLink RL 13 "java/lang/IllegalArgumentException") (List.mem_cons_of_mem _ (List.mem_append_left _ (List.mem_append_left _ (List.mem_append_left _ (List.mem_append_left _ (List.mem_append_left _ (List.mem_append_left _ (List.mem_of_getElem? (i := 0) rfl))))))))
  have htab := vx_table (x := yL_estimatedWeight) B (hts (.codeWith yL_estimatedWeight cL_estimatedWeight 5 (some .int) [(0, 9, 12, 13), (0, 9, 16, 38)]) List.mem_cons_self)
  have hl := lv_entry ([.ref (ad o), .int st, .int sl, .ref ou]) (n := 5) (Nat.le_of_ble_eq_true rfl)
  rw [lg_entry_eq]
  generalize (lg_sl ([.ref (ad o), .int st, .int sl, .ref ou]) ++ List.replicate (5 - (lg_sl ([.ref (ad o), .int st, .int sl, .ref ou])).length) Slot.unset).toArray = ls at hl ⊢
  have hl : lv_has ls 5 [(0, .ref (ad o)), (1, .int st), (2, .int sl), (3, .ref ou)] := hl
  refine lv_aload_n hx hb dL_estimatedWeight_0 rfl (lv_at hl 3 rfl) ?_
  refine lv_iconst (v := 0) hx hb dL_estimatedWeight_1 (by decide) ?_
  refine lv_aload_n hx hb dL_estimatedWeight_2 rfl (lv_at hl 0 rfl) ?_
  refine lv_iload_n hx hb dL_estimatedWeight_3 rfl (lv_at hl 1 rfl) ?_
  refine lv_iload_n hx hb dL_estimatedWeight_4 rfl (lv_at hl 2 rfl) ?_
  have hP9 := hP
  have hD9 := hD
  rw [← List.append_nil (wRR G ad o sg)] at hP9 hD9
  refine noV [(ou, .inl (G.2.2.2, 1, .inr (.inl fo)))] (wRR G ad o sg) [] (wRR G ad o sg) (As := [.int st, .int sl]) (rest := [.int 0, .ref ou]) CF (kn_X6_estimatedWeight l hl0 G ad o sg st sl hk) (cwV 2 hts gL_estimatedWeight_X6_estimatedWeight rfl rfl rfl (by decide +kernel) ⟨Nat.le_of_ble_eq_true rfl, Nat.le_of_ble_eq_true rfl⟩) hP9 hD9 hS hA hY hZ rfl rfl (fst_RR _ _ _ _ _) rfl hl.1 rfl (lv_room (Nat.le_of_ble_eq_true rfl)) dL_estimatedWeight_5 ⟨Nat.le_of_ble_eq_true rfl, Nat.le_of_ble_eq_true rfl⟩ (fun ce q9 H locs hP hD hS hce hcv hcl => ?_)
  rw [List.append_nil] at hP hD
  have hP : va_P G.1 vwCl ([(ou, .inl (G.2.2.2, 1, .inr (.inl fo)))] ++ (wRR G ad o sg)) H := hP
  have hD : va_D A ([(ou, .inl (G.2.2.2, 1, .inr (.inl fo)))] ++ (wRR G ad o sg)) := hD
  refine vx_catch (own := RL) (name := "java/lang/IllegalArgumentException") hown [] ⟨0, 9, 12, 13⟩ [⟨0, 9, 16, 38⟩] htab (fun z hz => nomatch hz) rfl (by decide) kx0 (va_Nw.use rfl (hY.2.1 (.castable "java/lang/IllegalArgumentException" "java/lang/IllegalArgumentException") (List.mem_of_getElem? (i := 39) rfl))) hce hcv hcl ?_
  refine lv_astore (lv' := [(4, .ref q9), (0, .ref (ad o)), (1, .int st), (2, .int sl), (3, .ref ou)]) hx hb dL_estimatedWeight_12 hl (by decide) rfl (fun ls hl => ?_)
  refine lv_iconst (v := 1) hx hb dL_estimatedWeight_14 (by decide) ?_
  exact ca_iret hx hb hr hlk hS hP (by first | with_reducible rfl | (simp only [sld_eq, ↓reduceIte]; done)) (by first | with_reducible rfl | (simp only [sld_eq, ↓reduceIte]; done)) dL_estimatedWeight_15

set_option maxHeartbeats 4000000 in
set_option maxRecDepth 100000 in
theorem k2_L_estimatedWeight (l : Launch) (hl0 : l.stackTraces = false) (G : GT) (ad : Nat → Nat) (o : Nat) (sg : RRT) (st sl : Int32) (ou : Nat) (fo : Nat → Int64) (h0 : okA st 0 2) (hs : ¬ okP sl (priSampled (rrPri sg st))) : Ca l yL_estimatedWeight wsL_estimatedWeight { frames := 8, cells := 1, slots := 6, locals := 159 } G ([(ou, .inl (G.2.2.2, 1, .inr (.inl fo)))] ++ (wRR G ad o sg)) ([(ou, .inl (G.2.2.2, 1, .inr (.inl fo)))] ++ (wRR G ad o (rrMP sg st))) [.ref (ad o), .int st, .int sl, .ref ou] (some (.int 2)) := by
  intro sz
  refine met_ofWH (cc := cL_estimatedWeight) (maxL := 5) (ret := (some .int)) (hh := [(0, 9, 12, 13), (0, 9, 16, 38)]) (by decide) rfl ?_
  intro p e s m args below meth c s₁ B hml hv
  obtain ⟨rfl, hsz, hP, hY, hD0, hZ0⟩ := hv
  subst hsz
  have hD := hD0.self (sz := s.heap.size)
  generalize hAe : va_A ([(ou, .inl (G.2.2.2, 1, .inr (.inl fo)))] ++ (wRR G ad o sg)) s.heap.size = A at hD hZ0 ⊢
  have hZ : Zs A s s.heap := hZ0
  have hA : ∀ q : Nat, s.heap.size ≤ q → A q := fun q h => by rw [← hAe]; exact Or.inr h
  have hS : va_S A s.heap s.heap [] := va_S.rf
  have hx := B.exec
  have hb := B.bytes
  have hr := B.returns
  have hts := atoms_spec (ws := wsL_estimatedWeight) B.pre
  have hown : s.vm.findClass RL = some m.cls := findClass_of_methodNamed B.named
  have hlk := B.notSynchronized
  have CF : CallFix p m c cL_estimatedWeight 5 s _ wsL_estimatedWeight RL := ⟨hx, hb, hml, hown, hts⟩
  have kx1 := hts (.classLink RL 38 "java/lang/IndexOutOfBoundsException") (List.mem_cons_of_mem _ (List.mem_append_left _ (List.mem_append_left _ (List.mem_append_left _ (List.mem_append_left _ (List.mem_append_left _ (List.mem_append_left _ (List.mem_of_getElem? (i := 1) rfl))))))))
  have kx0 := hts (.classLink RL 13 "java/lang/IllegalArgumentException") (List.mem_cons_of_mem _ (List.mem_append_left _ (List.mem_append_left _ (List.mem_append_left _ (List.mem_append_left _ (List.mem_append_left _ (List.mem_append_left _ (List.mem_of_getElem? (i := 0) rfl))))))))
  have htab := vx_table (x := yL_estimatedWeight) B (hts (.codeWith yL_estimatedWeight cL_estimatedWeight 5 (some .int) [(0, 9, 12, 13), (0, 9, 16, 38)]) List.mem_cons_self)
  have hl := lv_entry ([.ref (ad o), .int st, .int sl, .ref ou]) (n := 5) (Nat.le_of_ble_eq_true rfl)
  rw [lg_entry_eq]
  generalize (lg_sl ([.ref (ad o), .int st, .int sl, .ref ou]) ++ List.replicate (5 - (lg_sl ([.ref (ad o), .int st, .int sl, .ref ou])).length) Slot.unset).toArray = ls at hl ⊢
  have hl : lv_has ls 5 [(0, .ref (ad o)), (1, .int st), (2, .int sl), (3, .ref ou)] := hl
  refine lv_aload_n hx hb dL_estimatedWeight_0 rfl (lv_at hl 3 rfl) ?_
  refine lv_iconst (v := 0) hx hb dL_estimatedWeight_1 (by decide) ?_
  refine lv_aload_n hx hb dL_estimatedWeight_2 rfl (lv_at hl 0 rfl) ?_
  refine lv_iload_n hx hb dL_estimatedWeight_3 rfl (lv_at hl 1 rfl) ?_
  refine lv_iload_n hx hb dL_estimatedWeight_4 rfl (lv_at hl 2 rfl) ?_
  have hP9 := hP
  have hD9 := hD
  rw [← List.append_nil (wRR G ad o sg)] at hP9 hD9
  refine noV [(ou, .inl (G.2.2.2, 1, .inr (.inl fo)))] (wRR G ad o sg) [] (wRR G ad o (rrMP sg st)) (As := [.int st, .int sl]) (rest := [.int 0, .ref ou]) CF (kn2_X6_estimatedWeight l hl0 G ad o sg st sl h0 hs) (cwV 2 hts gL_estimatedWeight_X6_estimatedWeight rfl rfl rfl (by decide +kernel) ⟨Nat.le_of_ble_eq_true rfl, Nat.le_of_ble_eq_true rfl⟩) hP9 hD9 hS hA hY hZ rfl rfl (fst_RR _ _ _ _ _) rfl hl.1 rfl (lv_room (Nat.le_of_ble_eq_true rfl)) dL_estimatedWeight_5 ⟨Nat.le_of_ble_eq_true rfl, Nat.le_of_ble_eq_true rfl⟩ (fun ce q9 H locs hP hD hS hce hcv hcl => ?_)
  rw [List.append_nil] at hP hD
  have hP : va_P G.1 vwCl ([(ou, .inl (G.2.2.2, 1, .inr (.inl fo)))] ++ (wRR G ad o (rrMP sg st))) H := hP
  have hD : va_D A ([(ou, .inl (G.2.2.2, 1, .inr (.inl fo)))] ++ (wRR G ad o (rrMP sg st))) := hD
  refine vx_catch (own := RL) (name := "java/lang/IndexOutOfBoundsException") hown [⟨0, 9, 12, 13⟩] ⟨0, 9, 16, 38⟩ [] htab (fun z hz => by rcases List.mem_singleton.mp hz with rfl; exact Or.inr ⟨by decide, _, kx0, hY.2.2.1 ("java/lang/IndexOutOfBoundsException", "java/lang/IllegalArgumentException") (List.mem_of_getElem? (i := 1) rfl)⟩) rfl (by decide) kx1 (va_Nw.use rfl (hY.2.1 (.castable "java/lang/IndexOutOfBoundsException" "java/lang/IndexOutOfBoundsException") (List.mem_of_getElem? (i := 41) rfl))) hce hcv hcl ?_
  refine lv_astore (lv' := [(4, .ref q9), (0, .ref (ad o)), (1, .int st), (2, .int sl), (3, .ref ou)]) hx hb dL_estimatedWeight_16 hl (by decide) rfl (fun ls hl => ?_)
  refine lv_iconst (v := 2) hx hb dL_estimatedWeight_18 (by decide) ?_
  exact ca_iret hx hb hr hlk hS hP (by first | with_reducible rfl | (simp only [sld_eq, ↓reduceIte]; done)) (by first | with_reducible rfl | (simp only [sld_eq, ↓reduceIte]; done)) dL_estimatedWeight_19

set_option maxHeartbeats 4000000 in
set_option maxRecDepth 100000 in
theorem k_L_threshold (l : Launch) (G : GT) (ad : Nat → Nat) (o : Nat) (sg : RRT) (st : Int32) (ou : Nat) (fo : Nat → Int64) (h0 : okA st 0 2) : Ca l yL_threshold wsL_threshold { frames := 8, cells := 1, slots := 6, locals := 157 } G ([(ou, .inl (G.2.2.2, 1, .inr (.inl fo)))] ++ (wRR G ad o sg)) ([(ou, .inl (G.2.2.2, 1, .inr (.inl (vp_updL fo (0 : Int32).toNatClampNeg (priBound (rrPri sg st))))))] ++ (wRR G ad o (rrMP sg st))) [.ref (ad o), .int st, .ref ou] (some (.int 0)) := by
  intro sz
  refine met_ofWH (cc := cL_threshold) (maxL := 4) (ret := (some .int)) (hh := [(0, 8, 11, 13)]) (by decide) rfl ?_
  intro p e s m args below meth c s₁ B hml hv
  obtain ⟨rfl, hsz, hP, hY, hD0, hZ0⟩ := hv
  subst hsz
  have hD := hD0.self (sz := s.heap.size)
  generalize hAe : va_A ([(ou, .inl (G.2.2.2, 1, .inr (.inl fo)))] ++ (wRR G ad o sg)) s.heap.size = A at hD hZ0 ⊢
  have hZ : Zs A s s.heap := hZ0
  have hA : ∀ q : Nat, s.heap.size ≤ q → A q := fun q h => by rw [← hAe]; exact Or.inr h
  have hS : va_S A s.heap s.heap [] := va_S.rf
  have hx := B.exec
  have hb := B.bytes
  have hr := B.returns
  have hts := atoms_spec (ws := wsL_threshold) B.pre
  have hown : s.vm.findClass RL = some m.cls := findClass_of_methodNamed B.named
  have hlk := B.notSynchronized
  have CF : CallFix p m c cL_threshold 4 s _ wsL_threshold RL := ⟨hx, hb, hml, hown, hts⟩
  have hl := lv_entry ([.ref (ad o), .int st, .ref ou]) (n := 4) (Nat.le_of_ble_eq_true rfl)
  rw [lg_entry_eq]
  generalize (lg_sl ([.ref (ad o), .int st, .ref ou]) ++ List.replicate (4 - (lg_sl ([.ref (ad o), .int st, .ref ou])).length) Slot.unset).toArray = ls at hl ⊢
  have hl : lv_has ls 4 [(0, .ref (ad o)), (1, .int st), (2, .ref ou)] := hl
  refine lv_aload_n hx hb dL_threshold_0 rfl (lv_at hl 2 rfl) ?_
  refine lv_iconst (v := 0) hx hb dL_threshold_1 (by decide) ?_
  refine lv_aload_n hx hb dL_threshold_2 rfl (lv_at hl 0 rfl) ?_
  refine lv_iload_n hx hb dL_threshold_3 rfl (lv_at hl 1 rfl) ?_
  have hP9 := hP
  have hD9 := hD
  rw [← List.append_nil (wRR G ad o sg)] at hP9 hD9
  refine wrV [(ou, .inl (G.2.2.2, 1, .inr (.inl fo)))] (wRR G ad o sg) [] (wRR G ad o (rrMP sg st)) (As := [.int st]) (rest := [.int 0, .ref ou]) CF (k_X6_threshold l G ad o sg st h0) (cwV 1 hts gL_threshold_X6_threshold rfl rfl rfl (by decide +kernel) ⟨Nat.le_of_ble_eq_true rfl, Nat.le_of_ble_eq_true rfl⟩) hP9 hD9 hS hA hY rfl rfl (fst_RR _ _ _ _ _) rfl hl.1 rfl (lv_room (Nat.le_of_ble_eq_true rfl)) dL_threshold_4 ⟨Nat.zero_le _, Nat.zero_le _⟩ (fun H locs hP hD hS => ?_)
  rw [List.append_nil] at hP hD
  have hP : va_P G.1 vwCl ([(ou, .inl (G.2.2.2, 1, .inr (.inl fo)))] ++ (wRR G ad o (rrMP sg st))) H := hP
  have hD : va_D A ([(ou, .inl (G.2.2.2, 1, .inr (.inl fo)))] ++ (wRR G ad o (rrMP sg st))) := hD
  refine va_last hx hb hY.1 hP hD hS 0 2 rfl rfl vp_0_1 dL_threshold_7 (fun H locs hP hD hS => ?_)
  have hP : va_P G.1 vwCl ([(ou, .inl (G.2.2.2, 1, .inr (.inl (vp_updL fo (0 : Int32).toNatClampNeg (priBound (rrPri sg st))))))] ++ (wRR G ad o (rrMP sg st))) H := hP
  have hD : va_D A ([(ou, .inl (G.2.2.2, 1, .inr (.inl (vp_updL fo (0 : Int32).toNatClampNeg (priBound (rrPri sg st))))))] ++ (wRR G ad o (rrMP sg st))) := hD
  refine lv_goto (tgt := 14) hx hb dL_threshold_8 (by decide) ?_
  refine lv_iconst (v := 0) hx hb dL_threshold_14 (by decide) ?_
  refine W.widen (k := 1) (n := 6) (Nat.zero_le _) (Nat.zero_le _) ?_
  exact ca_iret hx hb hr hlk hS hP (by first | with_reducible rfl | (simp only [sld_eq, ↓reduceIte]; done)) (by first | with_reducible rfl | (simp only [sld_eq, ↓reduceIte]; done)) dL_threshold_15

set_option maxHeartbeats 4000000 in
set_option maxRecDepth 100000 in
theorem k1_L_threshold (l : Launch) (hl0 : l.stackTraces = false) (G : GT) (ad : Nat → Nat) (o : Nat) (sg : RRT) (st : Int32) (ou : Nat) (fo : Nat → Int64) (hk : ¬ (okA st 0 2)) : Ca l yL_threshold wsL_threshold { frames := 8, cells := 1, slots := 6, locals := 157 } G ([(ou, .inl (G.2.2.2, 1, .inr (.inl fo)))] ++ (wRR G ad o sg)) ([(ou, .inl (G.2.2.2, 1, .inr (.inl fo)))] ++ (wRR G ad o sg)) [.ref (ad o), .int st, .ref ou] (some (.int 1)) := by
  intro sz
  refine met_ofWH (cc := cL_threshold) (maxL := 4) (ret := (some .int)) (hh := [(0, 8, 11, 13)]) (by decide) rfl ?_
  intro p e s m args below meth c s₁ B hml hv
  obtain ⟨rfl, hsz, hP, hY, hD0, hZ0⟩ := hv
  subst hsz
  have hD := hD0.self (sz := s.heap.size)
  generalize hAe : va_A ([(ou, .inl (G.2.2.2, 1, .inr (.inl fo)))] ++ (wRR G ad o sg)) s.heap.size = A at hD hZ0 ⊢
  have hZ : Zs A s s.heap := hZ0
  have hA : ∀ q : Nat, s.heap.size ≤ q → A q := fun q h => by rw [← hAe]; exact Or.inr h
  have hS : va_S A s.heap s.heap [] := va_S.rf
  have hx := B.exec
  have hb := B.bytes
  have hr := B.returns
  have hts := atoms_spec (ws := wsL_threshold) B.pre
  have hown : s.vm.findClass RL = some m.cls := findClass_of_methodNamed B.named
  have hlk := B.notSynchronized
  have CF : CallFix p m c cL_threshold 4 s _ wsL_threshold RL := ⟨hx, hb, hml, hown, hts⟩
  have kx0 := hts (.classLink RL 13 "java/lang/IllegalArgumentException") (List.mem_cons_of_mem _ (List.mem_append_left _ (List.mem_append_left _ (List.mem_append_left _ (List.mem_append_left _ (List.mem_append_left _ (List.mem_of_getElem? (i := 0) rfl)))))))
  have htab := vx_table (x := yL_threshold) B (hts (.codeWith yL_threshold cL_threshold 4 (some .int) [(0, 8, 11, 13)]) List.mem_cons_self)
  have hl := lv_entry ([.ref (ad o), .int st, .ref ou]) (n := 4) (Nat.le_of_ble_eq_true rfl)
  rw [lg_entry_eq]
  generalize (lg_sl ([.ref (ad o), .int st, .ref ou]) ++ List.replicate (4 - (lg_sl ([.ref (ad o), .int st, .ref ou])).length) Slot.unset).toArray = ls at hl ⊢
  have hl : lv_has ls 4 [(0, .ref (ad o)), (1, .int st), (2, .ref ou)] := hl
  refine lv_aload_n hx hb dL_threshold_0 rfl (lv_at hl 2 rfl) ?_
  refine lv_iconst (v := 0) hx hb dL_threshold_1 (by decide) ?_
  refine lv_aload_n hx hb dL_threshold_2 rfl (lv_at hl 0 rfl) ?_
  refine lv_iload_n hx hb dL_threshold_3 rfl (lv_at hl 1 rfl) ?_
  have hP9 := hP
  have hD9 := hD
  rw [← List.append_nil (wRR G ad o sg)] at hP9 hD9
  refine noV [(ou, .inl (G.2.2.2, 1, .inr (.inl fo)))] (wRR G ad o sg) [] (wRR G ad o sg) (As := [.int st]) (rest := [.int 0, .ref ou]) CF (kn_X6_threshold l hl0 G ad o sg st hk) (cwV 1 hts gL_threshold_X6_threshold rfl rfl rfl (by decide +kernel) ⟨Nat.le_of_ble_eq_true rfl, Nat.le_of_ble_eq_true rfl⟩) hP9 hD9 hS hA hY hZ rfl rfl (fst_RR _ _ _ _ _) rfl hl.1 rfl (lv_room (Nat.le_of_ble_eq_true rfl)) dL_threshold_4 ⟨Nat.le_of_ble_eq_true rfl, Nat.le_of_ble_eq_true rfl⟩ (fun ce q9 H locs hP hD hS hce hcv hcl => ?_)
  rw [List.append_nil] at hP hD
  have hP : va_P G.1 vwCl ([(ou, .inl (G.2.2.2, 1, .inr (.inl fo)))] ++ (wRR G ad o sg)) H := hP
  have hD : va_D A ([(ou, .inl (G.2.2.2, 1, .inr (.inl fo)))] ++ (wRR G ad o sg)) := hD
  refine vx_catch (own := RL) (name := "java/lang/IllegalArgumentException") hown [] ⟨0, 8, 11, 13⟩ [] htab (fun z hz => nomatch hz) rfl (by decide) kx0 (va_Nw.use rfl (hY.2.1 (.castable "java/lang/IllegalArgumentException" "java/lang/IllegalArgumentException") (List.mem_of_getElem? (i := 39) rfl))) hce hcv hcl ?_
  refine lv_astore_n (lv' := [(3, .ref q9), (0, .ref (ad o)), (1, .int st), (2, .ref ou)]) hx hb dL_threshold_11 rfl hl (by decide) rfl (fun ls hl => ?_)
  refine lv_iconst (v := 1) hx hb dL_threshold_12 (by decide) ?_
  exact ca_iret hx hb hr hlk hS hP (by first | with_reducible rfl | (simp only [sld_eq, ↓reduceIte]; done)) (by first | with_reducible rfl | (simp only [sld_eq, ↓reduceIte]; done)) dL_threshold_13

set_option maxHeartbeats 4000000 in
set_option maxRecDepth 100000 in
theorem k_L_estimate (l : Launch) (G : GT) (ad : Nat → Nat) (o : Nat) (sg : RRT) (st gr : Int32) (ou : Nat) (fo : Nat → Int64) (h0 : okA st 0 2) (h1 : okA gr 0 3) : Ca l yL_estimate wsL_estimate { frames := 8, cells := 1, slots := 6, locals := 158 } G ([(ou, .inl (G.2.2.2, 1, .inr (.inl fo)))] ++ (wRR G ad o sg)) ([(ou, .inl (G.2.2.2, 1, .inr (.inl (vp_updL fo (0 : Int32).toNatClampNeg (priEstSum (rrPri sg st) gr)))))] ++ (wRR G ad o (rrMP sg st))) [.ref (ad o), .int st, .int gr, .ref ou] (some (.int 0)) := by
  intro sz
  refine met_ofWH (cc := cL_estimate) (maxL := 5) (ret := (some .int)) (hh := [(0, 9, 12, 13)]) (by decide) rfl ?_
  intro p e s m args below meth c s₁ B hml hv
  obtain ⟨rfl, hsz, hP, hY, hD0, hZ0⟩ := hv
  subst hsz
  have hD := hD0.self (sz := s.heap.size)
  generalize hAe : va_A ([(ou, .inl (G.2.2.2, 1, .inr (.inl fo)))] ++ (wRR G ad o sg)) s.heap.size = A at hD hZ0 ⊢
  have hZ : Zs A s s.heap := hZ0
  have hA : ∀ q : Nat, s.heap.size ≤ q → A q := fun q h => by rw [← hAe]; exact Or.inr h
  have hS : va_S A s.heap s.heap [] := va_S.rf
  have hx := B.exec
  have hb := B.bytes
  have hr := B.returns
  have hts := atoms_spec (ws := wsL_estimate) B.pre
  have hown : s.vm.findClass RL = some m.cls := findClass_of_methodNamed B.named
  have hlk := B.notSynchronized
  have CF : CallFix p m c cL_estimate 5 s _ wsL_estimate RL := ⟨hx, hb, hml, hown, hts⟩
  have hl := lv_entry ([.ref (ad o), .int st, .int gr, .ref ou]) (n := 5) (Nat.le_of_ble_eq_true rfl)
  rw [lg_entry_eq]
  generalize (lg_sl ([.ref (ad o), .int st, .int gr, .ref ou]) ++ List.replicate (5 - (lg_sl ([.ref (ad o), .int st, .int gr, .ref ou])).length) Slot.unset).toArray = ls at hl ⊢
  have hl : lv_has ls 5 [(0, .ref (ad o)), (1, .int st), (2, .int gr), (3, .ref ou)] := hl
  refine lv_aload_n hx hb dL_estimate_0 rfl (lv_at hl 3 rfl) ?_
  refine lv_iconst (v := 0) hx hb dL_estimate_1 (by decide) ?_
  refine lv_aload_n hx hb dL_estimate_2 rfl (lv_at hl 0 rfl) ?_
  refine lv_iload_n hx hb dL_estimate_3 rfl (lv_at hl 1 rfl) ?_
  refine lv_iload_n hx hb dL_estimate_4 rfl (lv_at hl 2 rfl) ?_
  have hP9 := hP
  have hD9 := hD
  rw [← List.append_nil (wRR G ad o sg)] at hP9 hD9
  refine wrV [(ou, .inl (G.2.2.2, 1, .inr (.inl fo)))] (wRR G ad o sg) [] (wRR G ad o (rrMP sg st)) (As := [.int st, .int gr]) (rest := [.int 0, .ref ou]) CF (k_X6_estimate l G ad o sg st gr h0 h1) (cwV 2 hts gL_estimate_X6_estimate rfl rfl rfl (by decide +kernel) ⟨Nat.le_of_ble_eq_true rfl, Nat.le_of_ble_eq_true rfl⟩) hP9 hD9 hS hA hY rfl rfl (fst_RR _ _ _ _ _) rfl hl.1 rfl (lv_room (Nat.le_of_ble_eq_true rfl)) dL_estimate_5 ⟨Nat.zero_le _, Nat.zero_le _⟩ (fun H locs hP hD hS => ?_)
  rw [List.append_nil] at hP hD
  have hP : va_P G.1 vwCl ([(ou, .inl (G.2.2.2, 1, .inr (.inl fo)))] ++ (wRR G ad o (rrMP sg st))) H := hP
  have hD : va_D A ([(ou, .inl (G.2.2.2, 1, .inr (.inl fo)))] ++ (wRR G ad o (rrMP sg st))) := hD
  refine va_last hx hb hY.1 hP hD hS 0 2 rfl rfl vp_0_1 dL_estimate_8 (fun H locs hP hD hS => ?_)
  have hP : va_P G.1 vwCl ([(ou, .inl (G.2.2.2, 1, .inr (.inl (vp_updL fo (0 : Int32).toNatClampNeg (priEstSum (rrPri sg st) gr)))))] ++ (wRR G ad o (rrMP sg st))) H := hP
  have hD : va_D A ([(ou, .inl (G.2.2.2, 1, .inr (.inl (vp_updL fo (0 : Int32).toNatClampNeg (priEstSum (rrPri sg st) gr)))))] ++ (wRR G ad o (rrMP sg st))) := hD
  refine lv_goto (tgt := 16) hx hb dL_estimate_9 (by decide) ?_
  refine lv_iconst (v := 0) hx hb dL_estimate_16 (by decide) ?_
  refine W.widen (k := 1) (n := 6) (Nat.zero_le _) (Nat.zero_le _) ?_
  exact ca_iret hx hb hr hlk hS hP (by first | with_reducible rfl | (simp only [sld_eq, ↓reduceIte]; done)) (by first | with_reducible rfl | (simp only [sld_eq, ↓reduceIte]; done)) dL_estimate_17

set_option maxHeartbeats 4000000 in
set_option maxRecDepth 100000 in
theorem k1_L_estimate (l : Launch) (hl0 : l.stackTraces = false) (G : GT) (ad : Nat → Nat) (o : Nat) (sg : RRT) (st gr : Int32) (ou : Nat) (fo : Nat → Int64) (hk : ¬ (okA st 0 2 ∧ okA gr 0 3)) : Ca l yL_estimate wsL_estimate { frames := 8, cells := 1, slots := 6, locals := 158 } G ([(ou, .inl (G.2.2.2, 1, .inr (.inl fo)))] ++ (wRR G ad o sg)) ([(ou, .inl (G.2.2.2, 1, .inr (.inl fo)))] ++ (wRR G ad o sg)) [.ref (ad o), .int st, .int gr, .ref ou] (some (.int 1)) := by
  intro sz
  refine met_ofWH (cc := cL_estimate) (maxL := 5) (ret := (some .int)) (hh := [(0, 9, 12, 13)]) (by decide) rfl ?_
  intro p e s m args below meth c s₁ B hml hv
  obtain ⟨rfl, hsz, hP, hY, hD0, hZ0⟩ := hv
  subst hsz
  have hD := hD0.self (sz := s.heap.size)
  generalize hAe : va_A ([(ou, .inl (G.2.2.2, 1, .inr (.inl fo)))] ++ (wRR G ad o sg)) s.heap.size = A at hD hZ0 ⊢
  have hZ : Zs A s s.heap := hZ0
  have hA : ∀ q : Nat, s.heap.size ≤ q → A q := fun q h => by rw [← hAe]; exact Or.inr h
  have hS : va_S A s.heap s.heap [] := va_S.rf
  have hx := B.exec
  have hb := B.bytes
  have hr := B.returns
  have hts := atoms_spec (ws := wsL_estimate) B.pre
  have hown : s.vm.findClass RL = some m.cls := findClass_of_methodNamed B.named
  have hlk := B.notSynchronized
  have CF : CallFix p m c cL_estimate 5 s _ wsL_estimate RL := ⟨hx, hb, hml, hown, hts⟩
  have kx0 := hts (.classLink RL 13 "java/lang/IllegalArgumentException") (List.mem_cons_of_mem _ (List.mem_append_left _ (List.mem_append_left _ (List.mem_append_left _ (List.mem_append_left _ (List.mem_append_left _ (List.mem_of_getElem? (i := 0) rfl)))))))
  have htab := vx_table (x := yL_estimate) B (hts (.codeWith yL_estimate cL_estimate 5 (some .int) [(0, 9, 12, 13)]) List.mem_cons_self)
  have hl := lv_entry ([.ref (ad o), .int st, .int gr, .ref ou]) (n := 5) (Nat.le_of_ble_eq_true rfl)
  rw [lg_entry_eq]
  generalize (lg_sl ([.ref (ad o), .int st, .int gr, .ref ou]) ++ List.replicate (5 - (lg_sl ([.ref (ad o), .int st, .int gr, .ref ou])).length) Slot.unset).toArray = ls at hl ⊢
  have hl : lv_has ls 5 [(0, .ref (ad o)), (1, .int st), (2, .int gr), (3, .ref ou)] := hl
  refine lv_aload_n hx hb dL_estimate_0 rfl (lv_at hl 3 rfl) ?_
  refine lv_iconst (v := 0) hx hb dL_estimate_1 (by decide) ?_
  refine lv_aload_n hx hb dL_estimate_2 rfl (lv_at hl 0 rfl) ?_
  refine lv_iload_n hx hb dL_estimate_3 rfl (lv_at hl 1 rfl) ?_
  refine lv_iload_n hx hb dL_estimate_4 rfl (lv_at hl 2 rfl) ?_
  have hP9 := hP
  have hD9 := hD
  rw [← List.append_nil (wRR G ad o sg)] at hP9 hD9
  refine noV [(ou, .inl (G.2.2.2, 1, .inr (.inl fo)))] (wRR G ad o sg) [] (wRR G ad o sg) (As := [.int st, .int gr]) (rest := [.int 0, .ref ou]) CF (kn_X6_estimate l hl0 G ad o sg st gr hk) (cwV 2 hts gL_estimate_X6_estimate rfl rfl rfl (by decide +kernel) ⟨Nat.le_of_ble_eq_true rfl, Nat.le_of_ble_eq_true rfl⟩) hP9 hD9 hS hA hY hZ rfl rfl (fst_RR _ _ _ _ _) rfl hl.1 rfl (lv_room (Nat.le_of_ble_eq_true rfl)) dL_estimate_5 ⟨Nat.le_of_ble_eq_true rfl, Nat.le_of_ble_eq_true rfl⟩ (fun ce q9 H locs hP hD hS hce hcv hcl => ?_)
  rw [List.append_nil] at hP hD
  have hP : va_P G.1 vwCl ([(ou, .inl (G.2.2.2, 1, .inr (.inl fo)))] ++ (wRR G ad o sg)) H := hP
  have hD : va_D A ([(ou, .inl (G.2.2.2, 1, .inr (.inl fo)))] ++ (wRR G ad o sg)) := hD
  refine vx_catch (own := RL) (name := "java/lang/IllegalArgumentException") hown [] ⟨0, 9, 12, 13⟩ [] htab (fun z hz => nomatch hz) rfl (by decide) kx0 (va_Nw.use rfl (hY.2.1 (.castable "java/lang/IllegalArgumentException" "java/lang/IllegalArgumentException") (List.mem_of_getElem? (i := 39) rfl))) hce hcv hcl ?_
  refine lv_astore (lv' := [(4, .ref q9), (0, .ref (ad o)), (1, .int st), (2, .int gr), (3, .ref ou)]) hx hb dL_estimate_12 hl (by decide) rfl (fun ls hl => ?_)
  refine lv_iconst (v := 1) hx hb dL_estimate_14 (by decide) ?_
  exact ca_iret hx hb hr hlk hS hP (by first | with_reducible rfl | (simp only [sld_eq, ↓reduceIte]; done)) (by first | with_reducible rfl | (simp only [sld_eq, ↓reduceIte]; done)) dL_estimate_15

set_option maxHeartbeats 4000000 in
set_option maxRecDepth 100000 in
theorem k_L_sampledWeight (l : Launch) (G : GT) (ad : Nat → Nat) (o : Nat) (sg : RRT) (st gr : Int32) (ou : Nat) (fo : Nat → Int64) (h0 : okA st 0 2) (h1 : okA gr 0 3) : Ca l yL_sampledWeight wsL_sampledWeight { frames := 8, cells := 1, slots := 6, locals := 158 } G ([(ou, .inl (G.2.2.2, 1, .inr (.inl fo)))] ++ (wRR G ad o sg)) ([(ou, .inl (G.2.2.2, 1, .inr (.inl (vp_updL fo (0 : Int32).toNatClampNeg (priWSum (rrPri sg st) gr).toInt64))))] ++ (wRR G ad o (rrMP sg st))) [.ref (ad o), .int st, .int gr, .ref ou] (some (.int 0)) := by
  intro sz
  refine met_ofWH (cc := cL_sampledWeight) (maxL := 5) (ret := (some .int)) (hh := [(0, 10, 13, 13)]) (by decide) rfl ?_
  intro p e s m args below meth c s₁ B hml hv
  obtain ⟨rfl, hsz, hP, hY, hD0, hZ0⟩ := hv
  subst hsz
  have hD := hD0.self (sz := s.heap.size)
  generalize hAe : va_A ([(ou, .inl (G.2.2.2, 1, .inr (.inl fo)))] ++ (wRR G ad o sg)) s.heap.size = A at hD hZ0 ⊢
  have hZ : Zs A s s.heap := hZ0
  have hA : ∀ q : Nat, s.heap.size ≤ q → A q := fun q h => by rw [← hAe]; exact Or.inr h
  have hS : va_S A s.heap s.heap [] := va_S.rf
  have hx := B.exec
  have hb := B.bytes
  have hr := B.returns
  have hts := atoms_spec (ws := wsL_sampledWeight) B.pre
  have hown : s.vm.findClass RL = some m.cls := findClass_of_methodNamed B.named
  have hlk := B.notSynchronized
  have CF : CallFix p m c cL_sampledWeight 5 s _ wsL_sampledWeight RL := ⟨hx, hb, hml, hown, hts⟩
  have hl := lv_entry ([.ref (ad o), .int st, .int gr, .ref ou]) (n := 5) (Nat.le_of_ble_eq_true rfl)
  rw [lg_entry_eq]
  generalize (lg_sl ([.ref (ad o), .int st, .int gr, .ref ou]) ++ List.replicate (5 - (lg_sl ([.ref (ad o), .int st, .int gr, .ref ou])).length) Slot.unset).toArray = ls at hl ⊢
  have hl : lv_has ls 5 [(0, .ref (ad o)), (1, .int st), (2, .int gr), (3, .ref ou)] := hl
  refine lv_aload_n hx hb dL_sampledWeight_0 rfl (lv_at hl 3 rfl) ?_
  refine lv_iconst (v := 0) hx hb dL_sampledWeight_1 (by decide) ?_
  refine lv_aload_n hx hb dL_sampledWeight_2 rfl (lv_at hl 0 rfl) ?_
  refine lv_iload_n hx hb dL_sampledWeight_3 rfl (lv_at hl 1 rfl) ?_
  refine lv_iload_n hx hb dL_sampledWeight_4 rfl (lv_at hl 2 rfl) ?_
  have hP9 := hP
  have hD9 := hD
  rw [← List.append_nil (wRR G ad o sg)] at hP9 hD9
  refine wrV [(ou, .inl (G.2.2.2, 1, .inr (.inl fo)))] (wRR G ad o sg) [] (wRR G ad o (rrMP sg st)) (As := [.int st, .int gr]) (rest := [.int 0, .ref ou]) CF (k_X6_sampledWeight l G ad o sg st gr h0 h1) (cwV 2 hts gL_sampledWeight_X6_sampledWeight rfl rfl rfl (by decide +kernel) ⟨Nat.le_of_ble_eq_true rfl, Nat.le_of_ble_eq_true rfl⟩) hP9 hD9 hS hA hY rfl rfl (fst_RR _ _ _ _ _) rfl hl.1 rfl (lv_room (Nat.le_of_ble_eq_true rfl)) dL_sampledWeight_5 ⟨Nat.zero_le _, Nat.zero_le _⟩ (fun H locs hP hD hS => ?_)
  rw [List.append_nil] at hP hD
  have hP : va_P G.1 vwCl ([(ou, .inl (G.2.2.2, 1, .inr (.inl fo)))] ++ (wRR G ad o (rrMP sg st))) H := hP
  have hD : va_D A ([(ou, .inl (G.2.2.2, 1, .inr (.inl fo)))] ++ (wRR G ad o (rrMP sg st))) := hD
  refine lv_i2l hx hb dL_sampledWeight_8 rfl ?_
  refine va_last hx hb hY.1 hP hD hS 0 2 rfl rfl vp_0_1 dL_sampledWeight_9 (fun H locs hP hD hS => ?_)
  have hP : va_P G.1 vwCl ([(ou, .inl (G.2.2.2, 1, .inr (.inl (vp_updL fo (0 : Int32).toNatClampNeg ((priWSum (rrPri sg st) gr).toInt64)))))] ++ (wRR G ad o (rrMP sg st))) H := hP
  have hD : va_D A ([(ou, .inl (G.2.2.2, 1, .inr (.inl (vp_updL fo (0 : Int32).toNatClampNeg ((priWSum (rrPri sg st) gr).toInt64)))))] ++ (wRR G ad o (rrMP sg st))) := hD
  refine lv_goto (tgt := 17) hx hb dL_sampledWeight_10 (by decide) ?_
  refine lv_iconst (v := 0) hx hb dL_sampledWeight_17 (by decide) ?_
  refine W.widen (k := 1) (n := 6) (Nat.zero_le _) (Nat.zero_le _) ?_
  exact ca_iret hx hb hr hlk hS hP (by first | with_reducible rfl | (simp only [sld_eq, ↓reduceIte]; done)) (by first | with_reducible rfl | (simp only [sld_eq, ↓reduceIte]; done)) dL_sampledWeight_18

set_option maxHeartbeats 4000000 in
set_option maxRecDepth 100000 in
theorem k1_L_sampledWeight (l : Launch) (hl0 : l.stackTraces = false) (G : GT) (ad : Nat → Nat) (o : Nat) (sg : RRT) (st gr : Int32) (ou : Nat) (fo : Nat → Int64) (hk : ¬ (okA st 0 2 ∧ okA gr 0 3)) : Ca l yL_sampledWeight wsL_sampledWeight { frames := 8, cells := 1, slots := 6, locals := 158 } G ([(ou, .inl (G.2.2.2, 1, .inr (.inl fo)))] ++ (wRR G ad o sg)) ([(ou, .inl (G.2.2.2, 1, .inr (.inl fo)))] ++ (wRR G ad o sg)) [.ref (ad o), .int st, .int gr, .ref ou] (some (.int 1)) := by
  intro sz
  refine met_ofWH (cc := cL_sampledWeight) (maxL := 5) (ret := (some .int)) (hh := [(0, 10, 13, 13)]) (by decide) rfl ?_
  intro p e s m args below meth c s₁ B hml hv
  obtain ⟨rfl, hsz, hP, hY, hD0, hZ0⟩ := hv
  subst hsz
  have hD := hD0.self (sz := s.heap.size)
  generalize hAe : va_A ([(ou, .inl (G.2.2.2, 1, .inr (.inl fo)))] ++ (wRR G ad o sg)) s.heap.size = A at hD hZ0 ⊢
  have hZ : Zs A s s.heap := hZ0
  have hA : ∀ q : Nat, s.heap.size ≤ q → A q := fun q h => by rw [← hAe]; exact Or.inr h
  have hS : va_S A s.heap s.heap [] := va_S.rf
  have hx := B.exec
  have hb := B.bytes
  have hr := B.returns
  have hts := atoms_spec (ws := wsL_sampledWeight) B.pre
  have hown : s.vm.findClass RL = some m.cls := findClass_of_methodNamed B.named
  have hlk := B.notSynchronized
  have CF : CallFix p m c cL_sampledWeight 5 s _ wsL_sampledWeight RL := ⟨hx, hb, hml, hown, hts⟩
  have kx0 := hts (.classLink RL 13 "java/lang/IllegalArgumentException") (List.mem_cons_of_mem _ (List.mem_append_left _ (List.mem_append_left _ (List.mem_append_left _ (List.mem_append_left _ (List.mem_append_left _ (List.mem_of_getElem? (i := 0) rfl)))))))
  have htab := vx_table (x := yL_sampledWeight) B (hts (.codeWith yL_sampledWeight cL_sampledWeight 5 (some .int) [(0, 10, 13, 13)]) List.mem_cons_self)
  have hl := lv_entry ([.ref (ad o), .int st, .int gr, .ref ou]) (n := 5) (Nat.le_of_ble_eq_true rfl)
  rw [lg_entry_eq]
  generalize (lg_sl ([.ref (ad o), .int st, .int gr, .ref ou]) ++ List.replicate (5 - (lg_sl ([.ref (ad o), .int st, .int gr, .ref ou])).length) Slot.unset).toArray = ls at hl ⊢
  have hl : lv_has ls 5 [(0, .ref (ad o)), (1, .int st), (2, .int gr), (3, .ref ou)] := hl
  refine lv_aload_n hx hb dL_sampledWeight_0 rfl (lv_at hl 3 rfl) ?_
  refine lv_iconst (v := 0) hx hb dL_sampledWeight_1 (by decide) ?_
  refine lv_aload_n hx hb dL_sampledWeight_2 rfl (lv_at hl 0 rfl) ?_
  refine lv_iload_n hx hb dL_sampledWeight_3 rfl (lv_at hl 1 rfl) ?_
  refine lv_iload_n hx hb dL_sampledWeight_4 rfl (lv_at hl 2 rfl) ?_
  have hP9 := hP
  have hD9 := hD
  rw [← List.append_nil (wRR G ad o sg)] at hP9 hD9
  refine noV [(ou, .inl (G.2.2.2, 1, .inr (.inl fo)))] (wRR G ad o sg) [] (wRR G ad o sg) (As := [.int st, .int gr]) (rest := [.int 0, .ref ou]) CF (kn_X6_sampledWeight l hl0 G ad o sg st gr hk) (cwV 2 hts gL_sampledWeight_X6_sampledWeight rfl rfl rfl (by decide +kernel) ⟨Nat.le_of_ble_eq_true rfl, Nat.le_of_ble_eq_true rfl⟩) hP9 hD9 hS hA hY hZ rfl rfl (fst_RR _ _ _ _ _) rfl hl.1 rfl (lv_room (Nat.le_of_ble_eq_true rfl)) dL_sampledWeight_5 ⟨Nat.le_of_ble_eq_true rfl, Nat.le_of_ble_eq_true rfl⟩ (fun ce q9 H locs hP hD hS hce hcv hcl => ?_)
  rw [List.append_nil] at hP hD
  have hP : va_P G.1 vwCl ([(ou, .inl (G.2.2.2, 1, .inr (.inl fo)))] ++ (wRR G ad o sg)) H := hP
  have hD : va_D A ([(ou, .inl (G.2.2.2, 1, .inr (.inl fo)))] ++ (wRR G ad o sg)) := hD
  refine vx_catch (own := RL) (name := "java/lang/IllegalArgumentException") hown [] ⟨0, 10, 13, 13⟩ [] htab (fun z hz => nomatch hz) rfl (by decide) kx0 (va_Nw.use rfl (hY.2.1 (.castable "java/lang/IllegalArgumentException" "java/lang/IllegalArgumentException") (List.mem_of_getElem? (i := 39) rfl))) hce hcv hcl ?_
  refine lv_astore (lv' := [(4, .ref q9), (0, .ref (ad o)), (1, .int st), (2, .int gr), (3, .ref ou)]) hx hb dL_sampledWeight_13 hl (by decide) rfl (fun ls hl => ?_)
  refine lv_iconst (v := 1) hx hb dL_sampledWeight_15 (by decide) ?_
  exact ca_iret hx hb hr hlk hS hP (by first | with_reducible rfl | (simp only [sld_eq, ↓reduceIte]; done)) (by first | with_reducible rfl | (simp only [sld_eq, ↓reduceIte]; done)) dL_sampledWeight_16
