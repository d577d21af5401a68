set_option maxHeartbeats 4000000 in
set_option maxRecDepth 100000 in
theorem k1_L_groupOffers (l : Launch) (hl0 : l.stackTraces = false) (G : GT) (ad : Nat → Nat) (o : Nat) (sg : RRT) (st gr : Int32) (hk : ¬ (okA st 0 1 ∧ okA gr 0 3)) : Ck 1 1 6 l yL_groupOffers wsL_groupOffers { frames := 8, cells := 1, slots := 6, locals := 144 } G (wRR G ad o sg) (wRR G ad o sg) [.ref (ad o), .int st, .int gr] (some (.int (-9999002))) := by
  intro sz
  refine met_ofWH (cc := cL_groupOffers) (maxL := 4) (ret := (some .int)) (hh := [(0, 6, 7, 13)]) (by decide) rfl ?_
  intro p e s m args below meth c s₁ B hml hv
  obtain ⟨rfl, hsz, hP, hY, hD0, hZ0⟩ := hv
  subst hsz
  have hD := hD0.self (sz := s.heap.size)
  generalize hAe : va_A (wRR G ad o sg) s.heap.size = A at hD hZ0 ⊢
  have hZ : Zs A s s.heap := hZ0
  have hA : ∀ q : Nat, s.heap.size ≤ q → A q := fun q h => by rw [← hAe]; exact Or.inr h
  have hS : va_S A s.heap s.heap [] := va_S.rf
  have hx := B.exec
  have hb := B.bytes
  have hr := B.returns
  have hts := atoms_spec (ws := wsL_groupOffers) B.pre
  have hown : s.vm.findClass RL = some m.cls := findClass_of_methodNamed B.named
  have hlk := B.notSynchronized
  have CF : CallFix p m c cL_groupOffers 4 s _ wsL_groupOffers RL := ⟨hx, hb, hml, hown, hts⟩
  have kx0 := hts (.classLink RL 13 "java/lang/IllegalArgumentException") (List.mem_cons_of_mem _ (List.mem_append_left _ (List.mem_append_left _ (List.mem_append_left _ (List.mem_append_left _ (List.mem_append_left _ (List.mem_append_left _ (List.mem_of_getElem? (i := 0) rfl))))))))
  have htab := vx_table (x := yL_groupOffers) B (hts (.codeWith yL_groupOffers cL_groupOffers 4 (some .int) [(0, 6, 7, 13)]) List.mem_cons_self)
  have kc15 := hts (.constant RL 15 (-9999002)) (List.mem_cons_of_mem _ (List.mem_append_left _ (List.mem_append_left _ (List.mem_append_left _ (List.mem_append_left _ (List.mem_append_left _ (List.mem_append_left _ (List.mem_of_getElem? (i := 1) rfl))))))))
  have hl := lv_entry ([.ref (ad o), .int st, .int gr]) (n := 4) (Nat.le_of_ble_eq_true rfl)
  rw [lg_entry_eq]
  generalize (lg_sl ([.ref (ad o), .int st, .int gr]) ++ List.replicate (4 - (lg_sl ([.ref (ad o), .int st, .int gr])).length) Slot.unset).toArray = ls at hl ⊢
  have hl : lv_has ls 4 [(0, .ref (ad o)), (1, .int st), (2, .int gr)] := hl
  refine lv_aload_n hx hb dL_groupOffers_0 rfl (lv_at hl 0 rfl) ?_
  refine lv_iload_n hx hb dL_groupOffers_1 rfl (lv_at hl 1 rfl) ?_
  refine lv_iload_n hx hb dL_groupOffers_2 rfl (lv_at hl 2 rfl) ?_
  have hP9 := hP
  have hD9 := hD
  rw [← List.append_nil (wRR G ad o sg)] at hP9 hD9
  refine noV [] (wRR G ad o sg) [] (wRR G ad o sg) (As := [.int st, .int gr]) (rest := []) CF (kn_X6_groupOffers l hl0 G ad o sg st gr hk) (cwV 2 hts gL_groupOffers_X6_groupOffers rfl rfl rfl (by decide +kernel) ⟨Nat.le_of_ble_eq_true rfl, Nat.le_of_ble_eq_true rfl⟩) hP9 hD9 hS hA hY hZ rfl rfl (fst_RR _ _ _ _ _) rfl hl.1 rfl (lv_room (Nat.le_of_ble_eq_true rfl)) dL_groupOffers_3 ⟨Nat.le_of_ble_eq_true rfl, Nat.le_of_ble_eq_true rfl⟩ (fun ce q9 H locs hP hD hS hce hcv hcl hgr => ?_)
  rw [List.append_nil] at hP hD
  have hP : va_P G.1 vwCl (wRR G ad o sg) H := hP
  have hD : va_D A (wRR G ad o sg) := hD
  refine vx_catch (own := RL) (name := "java/lang/IllegalArgumentException") hown [] ⟨0, 6, 7, 13⟩ [] htab (fun z hz => nomatch hz) rfl (by decide) kx0 (va_Nw.use rfl (hY.2.1 (.castable "java/lang/IllegalArgumentException" "java/lang/IllegalArgumentException") (List.mem_of_getElem? (i := 39) rfl))) hce hcv hcl ?_
  refine lv_astore_n (lv' := [(3, .ref q9), (0, .ref (ad o)), (1, .int st), (2, .int gr)]) hx hb dL_groupOffers_7 rfl hl (by decide) rfl (fun ls hl => ?_)
  refine lv_ldc hx hb hown kc15 dL_groupOffers_8 ?_
  exact ck_iret hx hb hr hlk hS hP hgr.1 (by first | with_reducible rfl | (simp only [sld_eq, ↓reduceIte]; done)) (by first | with_reducible rfl | (simp only [sld_eq, ↓reduceIte]; done)) dL_groupOffers_10

set_option maxHeartbeats 4000000 in
set_option maxRecDepth 100000 in
theorem k1_L_groupItem (l : Launch) (hl0 : l.stackTraces = false) (G : GT) (ad : Nat → Nat) (o : Nat) (sg : RRT) (st gr sl : Int32) (hk : ¬ (okA st 0 1 ∧ okA gr 0 3)) : Ck 1 1 6 l yL_groupItem wsL_groupItem { frames := 8, cells := 1, slots := 6, locals := 146 } G (wRR G ad o sg) (wRR G ad o sg) [.ref (ad o), .int st, .int gr, .int sl] (some (.int (-9999002))) := by
  intro sz
  refine met_ofWH (cc := cL_groupItem) (maxL := 5) (ret := (some .int)) (hh := [(0, 7, 8, 13), (0, 7, 13, 40)]) (by decide) rfl ?_
  intro p e s m args below meth c s₁ B hml hv
  obtain ⟨rfl, hsz, hP, hY, hD0, hZ0⟩ := hv
  subst hsz
  have hD := hD0.self (sz := s.heap.size)
  generalize hAe : va_A (wRR G ad o sg) s.heap.size = A at hD hZ0 ⊢
  have hZ : Zs A s s.heap := hZ0
  have hA : ∀ q : Nat, s.heap.size ≤ q → A q := fun q h => by rw [← hAe]; exact Or.inr h
  have hS : va_S A s.heap s.heap [] := va_S.rf
  have hx := B.exec
  have hb := B.bytes
  have hr := B.returns
  have hts := atoms_spec (ws := wsL_groupItem) B.pre
  have hown : s.vm.findClass RL = some m.cls := findClass_of_methodNamed B.named
  have hlk := B.notSynchronized
  have CF : CallFix p m c cL_groupItem 5 s _ wsL_groupItem RL := ⟨hx, hb, hml, hown, hts⟩
  have kx0 := hts (.classLink RL 13 "java/lang/IllegalArgumentException") (List.mem_cons_of_mem _ (List.mem_append_left _ (List.mem_append_left _ (List.mem_append_left _ (List.mem_append_left _ (List.mem_append_left _ (List.mem_append_left _ (List.mem_append_left _ (List.mem_of_getElem? (i := 0) rfl)))))))))
  have htab := vx_table (x := yL_groupItem) B (hts (.codeWith yL_groupItem cL_groupItem 5 (some .int) [(0, 7, 8, 13), (0, 7, 13, 40)]) List.mem_cons_self)
  have kc15 := hts (.constant RL 15 (-9999002)) (List.mem_cons_of_mem _ (List.mem_append_left _ (List.mem_append_left _ (List.mem_append_left _ (List.mem_append_left _ (List.mem_append_left _ (List.mem_append_left _ (List.mem_append_left _ (List.mem_of_getElem? (i := 2) rfl)))))))))
  have hl := lv_entry ([.ref (ad o), .int st, .int gr, .int sl]) (n := 5) (Nat.le_of_ble_eq_true rfl)
  rw [lg_entry_eq]
  generalize (lg_sl ([.ref (ad o), .int st, .int gr, .int sl]) ++ List.replicate (5 - (lg_sl ([.ref (ad o), .int st, .int gr, .int sl])).length) Slot.unset).toArray = ls at hl ⊢
  have hl : lv_has ls 5 [(0, .ref (ad o)), (1, .int st), (2, .int gr), (3, .int sl)] := hl
  refine lv_aload_n hx hb dL_groupItem_0 rfl (lv_at hl 0 rfl) ?_
  refine lv_iload_n hx hb dL_groupItem_1 rfl (lv_at hl 1 rfl) ?_
  refine lv_iload_n hx hb dL_groupItem_2 rfl (lv_at hl 2 rfl) ?_
  refine lv_iload_n hx hb dL_groupItem_3 rfl (lv_at hl 3 rfl) ?_
  have hP9 := hP
  have hD9 := hD
  rw [← List.append_nil (wRR G ad o sg)] at hP9 hD9
  refine noV [] (wRR G ad o sg) [] (wRR G ad o sg) (As := [.int st, .int gr, .int sl]) (rest := []) CF (kn_X6_groupItem l hl0 G ad o sg st gr sl hk) (cwV 3 hts gL_groupItem_X6_groupItem rfl rfl rfl (by decide +kernel) ⟨Nat.le_of_ble_eq_true rfl, Nat.le_of_ble_eq_true rfl⟩) hP9 hD9 hS hA hY hZ rfl rfl (fst_RR _ _ _ _ _) rfl hl.1 rfl (lv_room (Nat.le_of_ble_eq_true rfl)) dL_groupItem_4 ⟨Nat.le_of_ble_eq_true rfl, Nat.le_of_ble_eq_true rfl⟩ (fun ce q9 H locs hP hD hS hce hcv hcl hgr => ?_)
  rw [List.append_nil] at hP hD
  have hP : va_P G.1 vwCl (wRR G ad o sg) H := hP
  have hD : va_D A (wRR G ad o sg) := hD
  refine vx_catch (own := RL) (name := "java/lang/IllegalArgumentException") hown [] ⟨0, 7, 8, 13⟩ [⟨0, 7, 13, 40⟩] htab (fun z hz => nomatch hz) rfl (by decide) kx0 (va_Nw.use rfl (hY.2.1 (.castable "java/lang/IllegalArgumentException" "java/lang/IllegalArgumentException") (List.mem_of_getElem? (i := 39) rfl))) hce hcv hcl ?_
  refine lv_astore (lv' := [(4, .ref q9), (0, .ref (ad o)), (1, .int st), (2, .int gr), (3, .int sl)]) hx hb dL_groupItem_8 hl (by decide) rfl (fun ls hl => ?_)
  refine lv_ldc hx hb hown kc15 dL_groupItem_10 ?_
  exact ck_iret hx hb hr hlk hS hP hgr.1 (by first | with_reducible rfl | (simp only [sld_eq, ↓reduceIte]; done)) (by first | with_reducible rfl | (simp only [sld_eq, ↓reduceIte]; done)) dL_groupItem_12

set_option maxHeartbeats 4000000 in
set_option maxRecDepth 100000 in
theorem k2_L_groupItem (l : Launch) (hl0 : l.stackTraces = false) (G : GT) (ad : Nat → Nat) (o : Nat) (sg : RRT) (st gr sl : Int32) (h0 : okA st 0 1) (h1 : okA gr 0 3) (hs : ¬ okP sl (resFilled (strGrp (rrStr sg st) gr).2)) : Ck 1 1 6 l yL_groupItem wsL_groupItem { frames := 8, cells := 1, slots := 6, locals := 146 } G (wRR G ad o sg) (wRR G ad o sg) [.ref (ad o), .int st, .int gr, .int sl] (some (.int (-9999001))) := by
  intro sz
  refine met_ofWH (cc := cL_groupItem) (maxL := 5) (ret := (some .int)) (hh := [(0, 7, 8, 13), (0, 7, 13, 40)]) (by decide) rfl ?_
  intro p e s m args below meth c s₁ B hml hv
  obtain ⟨rfl, hsz, hP, hY, hD0, hZ0⟩ := hv
  subst hsz
  have hD := hD0.self (sz := s.heap.size)
  generalize hAe : va_A (wRR G ad o sg) s.heap.size = A at hD hZ0 ⊢
  have hZ : Zs A s s.heap := hZ0
  have hA : ∀ q : Nat, s.heap.size ≤ q → A q := fun q h => by rw [← hAe]; exact Or.inr h
  have hS : va_S A s.heap s.heap [] := va_S.rf
  have hx := B.exec
  have hb := B.bytes
  have hr := B.returns
  have hts := atoms_spec (ws := wsL_groupItem) B.pre
  have hown : s.vm.findClass RL = some m.cls := findClass_of_methodNamed B.named
  have hlk := B.notSynchronized
  have CF : CallFix p m c cL_groupItem 5 s _ wsL_groupItem RL := ⟨hx, hb, hml, hown, hts⟩
  have kx1 := hts (.classLink RL 40 "java/lang/IndexOutOfBoundsException") (List.mem_cons_of_mem _ (List.mem_append_left _ (List.mem_append_left _ (List.mem_append_left _ (List.mem_append_left _ (List.mem_append_left _ (List.mem_append_left _ (List.mem_append_left _ (List.mem_of_getElem? (i := 1) rfl)))))))))
  have kx0 := hts (.classLink RL 13 "java/lang/IllegalArgumentException") (List.mem_cons_of_mem _ (List.mem_append_left _ (List.mem_append_left _ (List.mem_append_left _ (List.mem_append_left _ (List.mem_append_left _ (List.mem_append_left _ (List.mem_append_left _ (List.mem_of_getElem? (i := 0) rfl)))))))))
  have htab := vx_table (x := yL_groupItem) B (hts (.codeWith yL_groupItem cL_groupItem 5 (some .int) [(0, 7, 8, 13), (0, 7, 13, 40)]) List.mem_cons_self)
  have kc42 := hts (.constant RL 42 (-9999001)) (List.mem_cons_of_mem _ (List.mem_append_left _ (List.mem_append_left _ (List.mem_append_left _ (List.mem_append_left _ (List.mem_append_left _ (List.mem_append_left _ (List.mem_append_left _ (List.mem_of_getElem? (i := 3) rfl)))))))))
  have hl := lv_entry ([.ref (ad o), .int st, .int gr, .int sl]) (n := 5) (Nat.le_of_ble_eq_true rfl)
  rw [lg_entry_eq]
  generalize (lg_sl ([.ref (ad o), .int st, .int gr, .int sl]) ++ List.replicate (5 - (lg_sl ([.ref (ad o), .int st, .int gr, .int sl])).length) Slot.unset).toArray = ls at hl ⊢
  have hl : lv_has ls 5 [(0, .ref (ad o)), (1, .int st), (2, .int gr), (3, .int sl)] := hl
  refine lv_aload_n hx hb dL_groupItem_0 rfl (lv_at hl 0 rfl) ?_
  refine lv_iload_n hx hb dL_groupItem_1 rfl (lv_at hl 1 rfl) ?_
  refine lv_iload_n hx hb dL_groupItem_2 rfl (lv_at hl 2 rfl) ?_
  refine lv_iload_n hx hb dL_groupItem_3 rfl (lv_at hl 3 rfl) ?_
  have hP9 := hP
  have hD9 := hD
  rw [← List.append_nil (wRR G ad o sg)] at hP9 hD9
  refine noV [] (wRR G ad o sg) [] (wRR G ad o sg) (As := [.int st, .int gr, .int sl]) (rest := []) CF (kn2_X6_groupItem l hl0 G ad o sg st gr sl h0 h1 hs) (cwV 3 hts gL_groupItem_X6_groupItem rfl rfl rfl (by decide +kernel) ⟨Nat.le_of_ble_eq_true rfl, Nat.le_of_ble_eq_true rfl⟩) hP9 hD9 hS hA hY hZ rfl rfl (fst_RR _ _ _ _ _) rfl hl.1 rfl (lv_room (Nat.le_of_ble_eq_true rfl)) dL_groupItem_4 ⟨Nat.le_of_ble_eq_true rfl, Nat.le_of_ble_eq_true rfl⟩ (fun ce q9 H locs hP hD hS hce hcv hcl hgr => ?_)
  rw [List.append_nil] at hP hD
  have hP : va_P G.1 vwCl (wRR G ad o sg) H := hP
  have hD : va_D A (wRR G ad o sg) := hD
  refine vx_catch (own := RL) (name := "java/lang/IndexOutOfBoundsException") hown [⟨0, 7, 8, 13⟩] ⟨0, 7, 13, 40⟩ [] htab (fun z hz => by rcases List.mem_singleton.mp hz with rfl; exact Or.inr ⟨by decide, _, kx0, hY.2.2.1 ("java/lang/IndexOutOfBoundsException", "java/lang/IllegalArgumentException") (List.mem_of_getElem? (i := 1) rfl)⟩) rfl (by decide) kx1 (va_Nw.use rfl (hY.2.1 (.castable "java/lang/IndexOutOfBoundsException" "java/lang/IndexOutOfBoundsException") (List.mem_of_getElem? (i := 41) rfl))) hce hcv hcl ?_
  refine lv_astore (lv' := [(4, .ref q9), (0, .ref (ad o)), (1, .int st), (2, .int gr), (3, .int sl)]) hx hb dL_groupItem_13 hl (by decide) rfl (fun ls hl => ?_)
  refine lv_ldc hx hb hown kc42 dL_groupItem_15 ?_
  exact ck_iret hx hb hr hlk hS hP hgr.1 (by first | with_reducible rfl | (simp only [sld_eq, ↓reduceIte]; done)) (by first | with_reducible rfl | (simp only [sld_eq, ↓reduceIte]; done)) dL_groupItem_17

set_option maxHeartbeats 4000000 in
set_option maxRecDepth 100000 in
theorem k1_L_prioritySize (l : Launch) (hl0 : l.stackTraces = false) (G : GT) (ad : Nat → Nat) (o : Nat) (sg : RRT) (st : Int32) (hk : ¬ (okA st 0 2)) : Ck 1 1 6 l yL_prioritySize wsL_prioritySize { frames := 8, cells := 1, slots := 6, locals := 157 } G (wRR G ad o sg) (wRR G ad o sg) [.ref (ad o), .int st] (some (.int (-9999002))) := by
  intro sz
  refine met_ofWH (cc := cL_prioritySize) (maxL := 3) (ret := (some .int)) (hh := [(0, 5, 6, 13)]) (by decide) rfl ?_
  intro p e s m args below meth c s₁ B hml hv
  obtain ⟨rfl, hsz, hP, hY, hD0, hZ0⟩ := hv
  subst hsz
  have hD := hD0.self (sz := s.heap.size)
  generalize hAe : va_A (wRR G ad o sg) s.heap.size = A at hD hZ0 ⊢
  have hZ : Zs A s s.heap := hZ0
  have hA : ∀ q : Nat, s.heap.size ≤ q → A q := fun q h => by rw [← hAe]; exact Or.inr h
  have hS : va_S A s.heap s.heap [] := va_S.rf
  have hx := B.exec
  have hb := B.bytes
  have hr := B.returns
  have hts := atoms_spec (ws := wsL_prioritySize) B.pre
  have hown : s.vm.findClass RL = some m.cls := findClass_of_methodNamed B.named
  have hlk := B.notSynchronized
  have CF : CallFix p m c cL_prioritySize 3 s _ wsL_prioritySize RL := ⟨hx, hb, hml, hown, hts⟩
  have kx0 := hts (.classLink RL 13 "java/lang/IllegalArgumentException") (List.mem_cons_of_mem _ (List.mem_append_left _ (List.mem_append_left _ (List.mem_append_left _ (List.mem_append_left _ (List.mem_append_left _ (List.mem_of_getElem? (i := 0) rfl)))))))
  have htab := vx_table (x := yL_prioritySize) B (hts (.codeWith yL_prioritySize cL_prioritySize 3 (some .int) [(0, 5, 6, 13)]) List.mem_cons_self)
  have kc15 := hts (.constant RL 15 (-9999002)) (List.mem_cons_of_mem _ (List.mem_append_left _ (List.mem_append_left _ (List.mem_append_left _ (List.mem_append_left _ (List.mem_append_left _ (List.mem_of_getElem? (i := 1) rfl)))))))
  have hl := lv_entry ([.ref (ad o), .int st]) (n := 3) (Nat.le_of_ble_eq_true rfl)
  rw [lg_entry_eq]
  generalize (lg_sl ([.ref (ad o), .int st]) ++ List.replicate (3 - (lg_sl ([.ref (ad o), .int st])).length) Slot.unset).toArray = ls at hl ⊢
  have hl : lv_has ls 3 [(0, .ref (ad o)), (1, .int st)] := hl
  refine lv_aload_n hx hb dL_prioritySize_0 rfl (lv_at hl 0 rfl) ?_
  refine lv_iload_n hx hb dL_prioritySize_1 rfl (lv_at hl 1 rfl) ?_
  have hP9 := hP
  have hD9 := hD
  rw [← List.append_nil (wRR G ad o sg)] at hP9 hD9
  refine noV [] (wRR G ad o sg) [] (wRR G ad o sg) (As := [.int st]) (rest := []) CF (kn_X6_prioritySize l hl0 G ad o sg st hk) (cwV 1 hts gL_prioritySize_X6_prioritySize rfl rfl rfl (by decide +kernel) ⟨Nat.le_of_ble_eq_true rfl, Nat.le_of_ble_eq_true rfl⟩) hP9 hD9 hS hA hY hZ rfl rfl (fst_RR _ _ _ _ _) rfl hl.1 rfl (lv_room (Nat.le_of_ble_eq_true rfl)) dL_prioritySize_2 ⟨Nat.le_of_ble_eq_true rfl, Nat.le_of_ble_eq_true rfl⟩ (fun ce q9 H locs hP hD hS hce hcv hcl hgr => ?_)
  rw [List.append_nil] at hP hD
  have hP : va_P G.1 vwCl (wRR G ad o sg) H := hP
  have hD : va_D A (wRR G ad o sg) := hD
  refine vx_catch (own := RL) (name := "java/lang/IllegalArgumentException") hown [] ⟨0, 5, 6, 13⟩ [] htab (fun z hz => nomatch hz) rfl (by decide) kx0 (va_Nw.use rfl (hY.2.1 (.castable "java/lang/IllegalArgumentException" "java/lang/IllegalArgumentException") (List.mem_of_getElem? (i := 39) rfl))) hce hcv hcl ?_
  refine lv_astore_n (lv' := [(2, .ref q9), (0, .ref (ad o)), (1, .int st)]) hx hb dL_prioritySize_6 rfl hl (by decide) rfl (fun ls hl => ?_)
  refine lv_ldc hx hb hown kc15 dL_prioritySize_7 ?_
  exact ck_iret hx hb hr hlk hS hP hgr.1 (by first | with_reducible rfl | (simp only [sld_eq, ↓reduceIte]; done)) (by first | with_reducible rfl | (simp only [sld_eq, ↓reduceIte]; done)) dL_prioritySize_9

set_option maxHeartbeats 4000000 in
set_option maxRecDepth 100000 in
theorem k1_L_priorityItem (l : Launch) (hl0 : l.stackTraces = false) (G : GT) (ad : Nat → Nat) (o : Nat) (sg : RRT) (st sl : Int32) (hk : ¬ (okA st 0 2)) : Ck 1 1 6 l yL_priorityItem wsL_priorityItem { frames := 8, cells := 1, slots := 6, locals := 159 } G (wRR G ad o sg) (wRR G ad o sg) [.ref (ad o), .int st, .int sl] (some (.int (-9999002))) := by
  intro sz
  refine met_ofWH (cc := cL_priorityItem) (maxL := 4) (ret := (some .int)) (hh := [(0, 6, 7, 13), (0, 6, 11, 40)]) (by decide) rfl ?_
  intro p e s m args below meth c s₁ B hml hv
  obtain ⟨rfl, hsz, hP, hY, hD0, hZ0⟩ := hv
  subst hsz
  have hD := hD0.self (sz := s.heap.size)
  generalize hAe : va_A (wRR G ad o sg) s.heap.size = A at hD hZ0 ⊢
  have hZ : Zs A s s.heap := hZ0
  have hA : ∀ q : Nat, s.heap.size ≤ q → A q := fun q h => by rw [← hAe]; exact Or.inr h
  have hS : va_S A s.heap s.heap [] := va_S.rf
  have hx := B.exec
  have hb := B.bytes
  have hr := B.returns
  have hts := atoms_spec (ws := wsL_priorityItem) B.pre
  have hown : s.vm.findClass RL = some m.cls := findClass_of_methodNamed B.named
  have hlk := B.notSynchronized
  have CF : CallFix p m c cL_priorityItem 4 s _ wsL_priorityItem RL := ⟨hx, hb, hml, hown, hts⟩
  have kx0 := hts (.classLink RL 13 "java/lang/IllegalArgumentException") (List.mem_cons_of_mem _ (List.mem_append_left _ (List.mem_append_left _ (List.mem_append_left _ (List.mem_append_left _ (List.mem_append_left _ (List.mem_append_left _ (List.mem_of_getElem? (i := 0) rfl))))))))
  have htab := vx_table (x := yL_priorityItem) B (hts (.codeWith yL_priorityItem cL_priorityItem 4 (some .int) [(0, 6, 7, 13), (0, 6, 11, 40)]) List.mem_cons_self)
  have kc15 := hts (.constant RL 15 (-9999002)) (List.mem_cons_of_mem _ (List.mem_append_left _ (List.mem_append_left _ (List.mem_append_left _ (List.mem_append_left _ (List.mem_append_left _ (List.mem_append_left _ (List.mem_of_getElem? (i := 2) rfl))))))))
  have hl := lv_entry ([.ref (ad o), .int st, .int sl]) (n := 4) (Nat.le_of_ble_eq_true rfl)
  rw [lg_entry_eq]
  generalize (lg_sl ([.ref (ad o), .int st, .int sl]) ++ List.replicate (4 - (lg_sl ([.ref (ad o), .int st, .int sl])).length) Slot.unset).toArray = ls at hl ⊢
  have hl : lv_has ls 4 [(0, .ref (ad o)), (1, .int st), (2, .int sl)] := hl
  refine lv_aload_n hx hb dL_priorityItem_0 rfl (lv_at hl 0 rfl) ?_
  refine lv_iload_n hx hb dL_priorityItem_1 rfl (lv_at hl 1 rfl) ?_
  refine lv_iload_n hx hb dL_priorityItem_2 rfl (lv_at hl 2 rfl) ?_
  have hP9 := hP
  have hD9 := hD
  rw [← List.append_nil (wRR G ad o sg)] at hP9 hD9
  refine noV [] (wRR G ad o sg) [] (wRR G ad o sg) (As := [.int st, .int sl]) (rest := []) CF (kn_X6_priorityItem l hl0 G ad o sg st sl hk) (cwV 2 hts gL_priorityItem_X6_priorityItem rfl rfl rfl (by decide +kernel) ⟨Nat.le_of_ble_eq_true rfl, Nat.le_of_ble_eq_true rfl⟩) hP9 hD9 hS hA hY hZ rfl rfl (fst_RR _ _ _ _ _) rfl hl.1 rfl (lv_room (Nat.le_of_ble_eq_true rfl)) dL_priorityItem_3 ⟨Nat.le_of_ble_eq_true rfl, Nat.le_of_ble_eq_true rfl⟩ (fun ce q9 H locs hP hD hS hce hcv hcl hgr => ?_)
  rw [List.append_nil] at hP hD
  have hP : va_P G.1 vwCl (wRR G ad o sg) H := hP
  have hD : va_D A (wRR G ad o sg) := hD
  refine vx_catch (own := RL) (name := "java/lang/IllegalArgumentException") hown [] ⟨0, 6, 7, 13⟩ [⟨0, 6, 11, 40⟩] htab (fun z hz => nomatch hz) rfl (by decide) kx0 (va_Nw.use rfl (hY.2.1 (.castable "java/lang/IllegalArgumentException" "java/lang/IllegalArgumentException") (List.mem_of_getElem? (i := 39) rfl))) hce hcv hcl ?_
  refine lv_astore_n (lv' := [(3, .ref q9), (0, .ref (ad o)), (1, .int st), (2, .int sl)]) hx hb dL_priorityItem_7 rfl hl (by decide) rfl (fun ls hl => ?_)
  refine lv_ldc hx hb hown kc15 dL_priorityItem_8 ?_
  exact ck_iret hx hb hr hlk hS hP hgr.1 (by first | with_reducible rfl | (simp only [sld_eq, ↓reduceIte]; done)) (by first | with_reducible rfl | (simp only [sld_eq, ↓reduceIte]; done)) dL_priorityItem_10

set_option maxHeartbeats 4000000 in
set_option maxRecDepth 100000 in
theorem k2_L_priorityItem (l : Launch) (hl0 : l.stackTraces = false) (G : GT) (ad : Nat → Nat) (o : Nat) (sg : RRT) (st sl : Int32) (h0 : okA st 0 2) (hs : ¬ okP sl (priSampled (rrPri sg st))) : Ck 1 1 6 l yL_priorityItem wsL_priorityItem { frames := 8, cells := 1, slots := 6, locals := 159 } G (wRR G ad o sg) (wRR G ad o (rrMP sg st)) [.ref (ad o), .int st, .int sl] (some (.int (-9999001))) := by
  intro sz
  refine met_ofWH (cc := cL_priorityItem) (maxL := 4) (ret := (some .int)) (hh := [(0, 6, 7, 13), (0, 6, 11, 40)]) (by decide) rfl ?_
  intro p e s m args below meth c s₁ B hml hv
  obtain ⟨rfl, hsz, hP, hY, hD0, hZ0⟩ := hv
  subst hsz
  have hD := hD0.self (sz := s.heap.size)
  generalize hAe : va_A (wRR G ad o sg) s.heap.size = A at hD hZ0 ⊢
  have hZ : Zs A s s.heap := hZ0
  have hA : ∀ q : Nat, s.heap.size ≤ q → A q := fun q h => by rw [← hAe]; exact Or.inr h
  have hS : va_S A s.heap s.heap [] := va_S.rf
  have hx := B.exec
  have hb := B.bytes
  have hr := B.returns
  have hts := atoms_spec (ws := wsL_priorityItem) B.pre
  have hown : s.vm.findClass RL = some m.cls := findClass_of_methodNamed B.named
  have hlk := B.notSynchronized
  have CF : CallFix p m c cL_priorityItem 4 s _ wsL_priorityItem RL := ⟨hx, hb, hml, hown, hts⟩
  have kx1 := hts (.classLink RL 40 "java/lang/IndexOutOfBoundsException") (List.mem_cons_of_mem _ (List.mem_append_left _ (List.mem_append_left _ (List.mem_append_left _ (List.mem_append_left _ (List.mem_append_left _ (List.mem_append_left _ (List.mem_of_getElem? (i := 1) rfl))))))))
  have kx0 := hts (.classLink RL 13 "java/lang/IllegalArgumentException") (List.mem_cons_of_mem _ (List.mem_append_left _ (List.mem_append_left _ (List.mem_append_left _ (List.mem_append_left _ (List.mem_append_left _ (List.mem_append_left _ (List.mem_of_getElem? (i := 0) rfl))))))))
  have htab := vx_table (x := yL_priorityItem) B (hts (.codeWith yL_priorityItem cL_priorityItem 4 (some .int) [(0, 6, 7, 13), (0, 6, 11, 40)]) List.mem_cons_self)
  have kc42 := hts (.constant RL 42 (-9999001)) (List.mem_cons_of_mem _ (List.mem_append_left _ (List.mem_append_left _ (List.mem_append_left _ (List.mem_append_left _ (List.mem_append_left _ (List.mem_append_left _ (List.mem_of_getElem? (i := 3) rfl))))))))
  have hl := lv_entry ([.ref (ad o), .int st, .int sl]) (n := 4) (Nat.le_of_ble_eq_true rfl)
  rw [lg_entry_eq]
  generalize (lg_sl ([.ref (ad o), .int st, .int sl]) ++ List.replicate (4 - (lg_sl ([.ref (ad o), .int st, .int sl])).length) Slot.unset).toArray = ls at hl ⊢
  have hl : lv_has ls 4 [(0, .ref (ad o)), (1, .int st), (2, .int sl)] := hl
  refine lv_aload_n hx hb dL_priorityItem_0 rfl (lv_at hl 0 rfl) ?_
  refine lv_iload_n hx hb dL_priorityItem_1 rfl (lv_at hl 1 rfl) ?_
  refine lv_iload_n hx hb dL_priorityItem_2 rfl (lv_at hl 2 rfl) ?_
  have hP9 := hP
  have hD9 := hD
  rw [← List.append_nil (wRR G ad o sg)] at hP9 hD9
  refine noV [] (wRR G ad o sg) [] (wRR G ad o (rrMP sg st)) (As := [.int st, .int sl]) (rest := []) CF (kn2_X6_priorityItem l hl0 G ad o sg st sl h0 hs) (cwV 2 hts gL_priorityItem_X6_priorityItem rfl rfl rfl (by decide +kernel) ⟨Nat.le_of_ble_eq_true rfl, Nat.le_of_ble_eq_true rfl⟩) hP9 hD9 hS hA hY hZ rfl rfl (fst_RR _ _ _ _ _) rfl hl.1 rfl (lv_room (Nat.le_of_ble_eq_true rfl)) dL_priorityItem_3 ⟨Nat.le_of_ble_eq_true rfl, Nat.le_of_ble_eq_true rfl⟩ (fun ce q9 H locs hP hD hS hce hcv hcl hgr => ?_)
  rw [List.append_nil] at hP hD
  have hP : va_P G.1 vwCl (wRR G ad o (rrMP sg st)) H := hP
  have hD : va_D A (wRR G ad o (rrMP sg st)) := hD
  refine vx_catch (own := RL) (name := "java/lang/IndexOutOfBoundsException") hown [⟨0, 6, 7, 13⟩] ⟨0, 6, 11, 40⟩ [] htab (fun z hz => by rcases List.mem_singleton.mp hz with rfl; exact Or.inr ⟨by decide, _, kx0, hY.2.2.1 ("java/lang/IndexOutOfBoundsException", "java/lang/IllegalArgumentException") (List.mem_of_getElem? (i := 1) rfl)⟩) rfl (by decide) kx1 (va_Nw.use rfl (hY.2.1 (.castable "java/lang/IndexOutOfBoundsException" "java/lang/IndexOutOfBoundsException") (List.mem_of_getElem? (i := 41) rfl))) hce hcv hcl ?_
  refine lv_astore_n (lv' := [(3, .ref q9), (0, .ref (ad o)), (1, .int st), (2, .int sl)]) hx hb dL_priorityItem_11 rfl hl (by decide) rfl (fun ls hl => ?_)
  refine lv_ldc hx hb hown kc42 dL_priorityItem_12 ?_
  exact ck_iret hx hb hr hlk hS hP hgr.1 (by first | with_reducible rfl | (simp only [sld_eq, ↓reduceIte]; done)) (by first | with_reducible rfl | (simp only [sld_eq, ↓reduceIte]; done)) dL_priorityItem_14

set_option maxHeartbeats 4000000 in
set_option maxRecDepth 100000 in
theorem k2_L_estimated (l : Launch) (hl0 : l.stackTraces = false) (G : GT) (ad : Nat → Nat) (o : Nat) (sg : RRT) (st sl : Int32) (h0 : okA st 0 2) (hs : ¬ okP sl (priSampled (rrPri sg st))) : Ck 1 1 6 l yL_estimated wsL_estimated { frames := 8, cells := 1, slots := 6, locals := 159 } G (wRR G ad o sg) (wRR G ad o (rrMP sg st)) [.ref (ad o), .int st, .int sl] (some (.long (-9999001))) := by
  intro sz
  refine met_ofWH (cc := cL_estimated) (maxL := 4) (ret := (some .long)) (hh := [(0, 6, 7, 13), (0, 6, 12, 40)]) (by decide) rfl ?_
  intro p e s m args below meth c s₁ B hml hv
  obtain ⟨rfl, hsz, hP, hY, hD0, hZ0⟩ := hv
  subst hsz
  have hD := hD0.self (sz := s.heap.size)
  generalize hAe : va_A (wRR G ad o sg) s.heap.size = A at hD hZ0 ⊢
  have hZ : Zs A s s.heap := hZ0
  have hA : ∀ q : Nat, s.heap.size ≤ q → A q := fun q h => by rw [← hAe]; exact Or.inr h
  have hS : va_S A s.heap s.heap [] := va_S.rf
  have hx := B.exec
  have hb := B.bytes
  have hr := B.returns
  have hts := atoms_spec (ws := wsL_estimated) B.pre
  have hown : s.vm.findClass RL = some m.cls := findClass_of_methodNamed B.named
  have hlk := B.notSynchronized
  have CF : CallFix p m c cL_estimated 4 s _ wsL_estimated RL := ⟨hx, hb, hml, hown, hts⟩
  have kx1 := hts (.classLink RL 40 "java/lang/IndexOutOfBoundsException") (List.mem_cons_of_mem _ (List.mem_append_left _ (List.mem_append_left _ (List.mem_append_left _ (List.mem_append_left _ (List.mem_append_left _ (List.mem_append_left _ (List.mem_of_getElem? (i := 1) rfl))))))))
  have kx0 := hts (.classLink RL 13 "java/lang/IllegalArgumentException") (List.mem_cons_of_mem _ (List.mem_append_left _ (List.mem_append_left _ (List.mem_append_left _ (List.mem_append_left _ (List.mem_append_left _ (List.mem_append_left _ (List.mem_of_getElem? (i := 0) rfl))))))))
  have htab := vx_table (x := yL_estimated) B (hts (.codeWith yL_estimated cL_estimated 4 (some .long) [(0, 6, 7, 13), (0, 6, 12, 40)]) List.mem_cons_self)
  have kc65 := hts (.constantLong RL 65 (-9999001)) (List.mem_cons_of_mem _ (List.mem_append_left _ (List.mem_append_left _ (List.mem_append_left _ (List.mem_append_left _ (List.mem_append_left _ (List.mem_append_left _ (List.mem_of_getElem? (i := 3) rfl))))))))
  have hl := lv_entry ([.ref (ad o), .int st, .int sl]) (n := 4) (Nat.le_of_ble_eq_true rfl)
  rw [lg_entry_eq]
  generalize (lg_sl ([.ref (ad o), .int st, .int sl]) ++ List.replicate (4 - (lg_sl ([.ref (ad o), .int st, .int sl])).length) Slot.unset).toArray = ls at hl ⊢
  have hl : lv_has ls 4 [(0, .ref (ad o)), (1, .int st), (2, .int sl)] := hl
  refine lv_aload_n hx hb dL_estimated_0 rfl (lv_at hl 0 rfl) ?_
  refine lv_iload_n hx hb dL_estimated_1 rfl (lv_at hl 1 rfl) ?_
  refine lv_iload_n hx hb dL_estimated_2 rfl (lv_at hl 2 rfl) ?_
  have hP9 := hP
  have hD9 := hD
  rw [← List.append_nil (wRR G ad o sg)] at hP9 hD9
  refine noV [] (wRR G ad o sg) [] (wRR G ad o (rrMP sg st)) (As := [.int st, .int sl]) (rest := []) CF (kn2_X6_estimatedWeight l hl0 G ad o sg st sl h0 hs) (cwV 2 hts gL_estimated_X6_estimatedWeight rfl rfl rfl (by decide +kernel) ⟨Nat.le_of_ble_eq_true rfl, Nat.le_of_ble_eq_true rfl⟩) hP9 hD9 hS hA hY hZ rfl rfl (fst_RR _ _ _ _ _) rfl hl.1 rfl (lv_room (Nat.le_of_ble_eq_true rfl)) dL_estimated_3 ⟨Nat.le_of_ble_eq_true rfl, Nat.le_of_ble_eq_true rfl⟩ (fun ce q9 H locs hP hD hS hce hcv hcl hgr => ?_)
  rw [List.append_nil] at hP hD
  have hP : va_P G.1 vwCl (wRR G ad o (rrMP sg st)) H := hP
  have hD : va_D A (wRR G ad o (rrMP sg st)) := hD
  refine vx_catch (own := RL) (name := "java/lang/IndexOutOfBoundsException") hown [⟨0, 6, 7, 13⟩] ⟨0, 6, 12, 40⟩ [] htab (fun z hz => by rcases List.mem_singleton.mp hz with rfl; exact Or.inr ⟨by decide, _, kx0, hY.2.2.1 ("java/lang/IndexOutOfBoundsException", "java/lang/IllegalArgumentException") (List.mem_of_getElem? (i := 1) rfl)⟩) rfl (by decide) kx1 (va_Nw.use rfl (hY.2.1 (.castable "java/lang/IndexOutOfBoundsException" "java/lang/IndexOutOfBoundsException") (List.mem_of_getElem? (i := 41) rfl))) hce hcv hcl ?_
  refine lv_astore_n (lv' := [(3, .ref q9), (0, .ref (ad o)), (1, .int st), (2, .int sl)]) hx hb dL_estimated_12 rfl hl (by decide) rfl (fun ls hl => ?_)
  refine lv_ldc2 hx hb hown kc65 dL_estimated_13 ?_
  exact ck_lret hx hb hr hlk hS hP hgr.1 (by first | with_reducible rfl | (simp only [sld_eq, ↓reduceIte]; done)) (by first | with_reducible rfl | (simp only [sld_eq, ↓reduceIte]; done)) dL_estimated_16

set_option maxHeartbeats 4000000 in
set_option maxRecDepth 100000 in
theorem k1_L_threshold (l : Launch) (hl0 : l.stackTraces = false) (G : GT) (ad : Nat → Nat) (o : Nat) (sg : RRT) (st : Int32) (hk : ¬ (okA st 0 2)) : Ck 1 1 6 l yL_threshold wsL_threshold { frames := 8, cells := 1, slots := 6, locals := 157 } G (wRR G ad o sg) (wRR G ad o sg) [.ref (ad o), .int st] (some (.long (-9999002))) := by
  intro sz
  refine met_ofWH (cc := cL_threshold) (maxL := 3) (ret := (some .long)) (hh := [(0, 5, 6, 13)]) (by decide) rfl ?_
  intro p e s m args below meth c s₁ B hml hv
  obtain ⟨rfl, hsz, hP, hY, hD0, hZ0⟩ := hv
  subst hsz
  have hD := hD0.self (sz := s.heap.size)
  generalize hAe : va_A (wRR G ad o sg) s.heap.size = A at hD hZ0 ⊢
  have hZ : Zs A s s.heap := hZ0
  have hA : ∀ q : Nat, s.heap.size ≤ q → A q := fun q h => by rw [← hAe]; exact Or.inr h
  have hS : va_S A s.heap s.heap [] := va_S.rf
  have hx := B.exec
  have hb := B.bytes
  have hr := B.returns
  have hts := atoms_spec (ws := wsL_threshold) B.pre
  have hown : s.vm.findClass RL = some m.cls := findClass_of_methodNamed B.named
  have hlk := B.notSynchronized
  have CF : CallFix p m c cL_threshold 3 s _ wsL_threshold RL := ⟨hx, hb, hml, hown, hts⟩
  have kx0 := hts (.classLink RL 13 "java/lang/IllegalArgumentException") (List.mem_cons_of_mem _ (List.mem_append_left _ (List.mem_append_left _ (List.mem_append_left _ (List.mem_append_left _ (List.mem_append_left _ (List.mem_of_getElem? (i := 0) rfl)))))))
  have htab := vx_table (x := yL_threshold) B (hts (.codeWith yL_threshold cL_threshold 3 (some .long) [(0, 5, 6, 13)]) List.mem_cons_self)
  have kc63 := hts (.constantLong RL 63 (-9999002)) (List.mem_cons_of_mem _ (List.mem_append_left _ (List.mem_append_left _ (List.mem_append_left _ (List.mem_append_left _ (List.mem_append_left _ (List.mem_of_getElem? (i := 1) rfl)))))))
  have hl := lv_entry ([.ref (ad o), .int st]) (n := 3) (Nat.le_of_ble_eq_true rfl)
  rw [lg_entry_eq]
  generalize (lg_sl ([.ref (ad o), .int st]) ++ List.replicate (3 - (lg_sl ([.ref (ad o), .int st])).length) Slot.unset).toArray = ls at hl ⊢
  have hl : lv_has ls 3 [(0, .ref (ad o)), (1, .int st)] := hl
  refine lv_aload_n hx hb dL_threshold_0 rfl (lv_at hl 0 rfl) ?_
  refine lv_iload_n hx hb dL_threshold_1 rfl (lv_at hl 1 rfl) ?_
  have hP9 := hP
  have hD9 := hD
  rw [← List.append_nil (wRR G ad o sg)] at hP9 hD9
  refine noV [] (wRR G ad o sg) [] (wRR G ad o sg) (As := [.int st]) (rest := []) CF (kn_X6_threshold l hl0 G ad o sg st hk) (cwV 1 hts gL_threshold_X6_threshold rfl rfl rfl (by decide +kernel) ⟨Nat.le_of_ble_eq_true rfl, Nat.le_of_ble_eq_true rfl⟩) hP9 hD9 hS hA hY hZ rfl rfl (fst_RR _ _ _ _ _) rfl hl.1 rfl (lv_room (Nat.le_of_ble_eq_true rfl)) dL_threshold_2 ⟨Nat.le_of_ble_eq_true rfl, Nat.le_of_ble_eq_true rfl⟩ (fun ce q9 H locs hP hD hS hce hcv hcl hgr => ?_)
  rw [List.append_nil] at hP hD
  have hP : va_P G.1 vwCl (wRR G ad o sg) H := hP
  have hD : va_D A (wRR G ad o sg) := hD
  refine vx_catch (own := RL) (name := "java/lang/IllegalArgumentException") hown [] ⟨0, 5, 6, 13⟩ [] htab (fun z hz => nomatch hz) rfl (by decide) kx0 (va_Nw.use rfl (hY.2.1 (.castable "java/lang/IllegalArgumentException" "java/lang/IllegalArgumentException") (List.mem_of_getElem? (i := 39) rfl))) hce hcv hcl ?_
  refine lv_astore_n (lv' := [(2, .ref q9), (0, .ref (ad o)), (1, .int st)]) hx hb dL_threshold_6 rfl hl (by decide) rfl (fun ls hl => ?_)
  refine lv_ldc2 hx hb hown kc63 dL_threshold_7 ?_
  exact ck_lret hx hb hr hlk hS hP hgr.1 (by first | with_reducible rfl | (simp only [sld_eq, ↓reduceIte]; done)) (by first | with_reducible rfl | (simp only [sld_eq, ↓reduceIte]; done)) dL_threshold_10

set_option maxHeartbeats 4000000 in
set_option maxRecDepth 100000 in
theorem k1_L_estimate (l : Launch) (hl0 : l.stackTraces = false) (G : GT) (ad : Nat → Nat) (o : Nat) (sg : RRT) (st gr : Int32) (hk : ¬ (okA st 0 2 ∧ okA gr 0 3)) : Ck 1 1 6 l yL_estimate wsL_estimate { frames := 8, cells := 1, slots := 6, locals := 158 } G (wRR G ad o sg) (wRR G ad o sg) [.ref (ad o), .int st, .int gr] (some (.long (-9999002))) := by
  intro sz
  refine met_ofWH (cc := cL_estimate) (maxL := 4) (ret := (some .long)) (hh := [(0, 6, 7, 13)]) (by decide) rfl ?_
  intro p e s m args below meth c s₁ B hml hv
  obtain ⟨rfl, hsz, hP, hY, hD0, hZ0⟩ := hv
  subst hsz
  have hD := hD0.self (sz := s.heap.size)
  generalize hAe : va_A (wRR G ad o sg) s.heap.size = A at hD hZ0 ⊢
  have hZ : Zs A s s.heap := hZ0
  have hA : ∀ q : Nat, s.heap.size ≤ q → A q := fun q h => by rw [← hAe]; exact Or.inr h
  have hS : va_S A s.heap s.heap [] := va_S.rf
  have hx := B.exec
  have hb := B.bytes
  have hr := B.returns
  have hts := atoms_spec (ws := wsL_estimate) B.pre
  have hown : s.vm.findClass RL = some m.cls := findClass_of_methodNamed B.named
  have hlk := B.notSynchronized
  have CF : CallFix p m c cL_estimate 4 s _ wsL_estimate RL := ⟨hx, hb, hml, hown, hts⟩
  have kx0 := hts (.classLink RL 13 "java/lang/IllegalArgumentException") (List.mem_cons_of_mem _ (List.mem_append_left _ (List.mem_append_left _ (List.mem_append_left _ (List.mem_append_left _ (List.mem_append_left _ (List.mem_of_getElem? (i := 0) rfl)))))))
  have htab := vx_table (x := yL_estimate) B (hts (.codeWith yL_estimate cL_estimate 4 (some .long) [(0, 6, 7, 13)]) List.mem_cons_self)
  have kc63 := hts (.constantLong RL 63 (-9999002)) (List.mem_cons_of_mem _ (List.mem_append_left _ (List.mem_append_left _ (List.mem_append_left _ (List.mem_append_left _ (List.mem_append_left _ (List.mem_of_getElem? (i := 1) rfl)))))))
  have hl := lv_entry ([.ref (ad o), .int st, .int gr]) (n := 4) (Nat.le_of_ble_eq_true rfl)
  rw [lg_entry_eq]
  generalize (lg_sl ([.ref (ad o), .int st, .int gr]) ++ List.replicate (4 - (lg_sl ([.ref (ad o), .int st, .int gr])).length) Slot.unset).toArray = ls at hl ⊢
  have hl : lv_has ls 4 [(0, .ref (ad o)), (1, .int st), (2, .int gr)] := hl
  refine lv_aload_n hx hb dL_estimate_0 rfl (lv_at hl 0 rfl) ?_
  refine lv_iload_n hx hb dL_estimate_1 rfl (lv_at hl 1 rfl) ?_
  refine lv_iload_n hx hb dL_estimate_2 rfl (lv_at hl 2 rfl) ?_
  have hP9 := hP
  have hD9 := hD
  rw [← List.append_nil (wRR G ad o sg)] at hP9 hD9
  refine noV [] (wRR G ad o sg) [] (wRR G ad o sg) (As := [.int st, .int gr]) (rest := []) CF (kn_X6_estimate l hl0 G ad o sg st gr hk) (cwV 2 hts gL_estimate_X6_estimate rfl rfl rfl (by decide +kernel) ⟨Nat.le_of_ble_eq_true rfl, Nat.le_of_ble_eq_true rfl⟩) hP9 hD9 hS hA hY hZ rfl rfl (fst_RR _ _ _ _ _) rfl hl.1 rfl (lv_room (Nat.le_of_ble_eq_true rfl)) dL_estimate_3 ⟨Nat.le_of_ble_eq_true rfl, Nat.le_of_ble_eq_true rfl⟩ (fun ce q9 H locs hP hD hS hce hcv hcl hgr => ?_)
  rw [List.append_nil] at hP hD
  have hP : va_P G.1 vwCl (wRR G ad o sg) H := hP
  have hD : va_D A (wRR G ad o sg) := hD
  refine vx_catch (own := RL) (name := "java/lang/IllegalArgumentException") hown [] ⟨0, 6, 7, 13⟩ [] htab (fun z hz => nomatch hz) rfl (by decide) kx0 (va_Nw.use rfl (hY.2.1 (.castable "java/lang/IllegalArgumentException" "java/lang/IllegalArgumentException") (List.mem_of_getElem? (i := 39) rfl))) hce hcv hcl ?_
  refine lv_astore_n (lv' := [(3, .ref q9), (0, .ref (ad o)), (1, .int st), (2, .int gr)]) hx hb dL_estimate_7 rfl hl (by decide) rfl (fun ls hl => ?_)
  refine lv_ldc2 hx hb hown kc63 dL_estimate_8 ?_
  exact ck_lret hx hb hr hlk hS hP hgr.1 (by first | with_reducible rfl | (simp only [sld_eq, ↓reduceIte]; done)) (by first | with_reducible rfl | (simp only [sld_eq, ↓reduceIte]; done)) dL_estimate_11

set_option maxHeartbeats 4000000 in
set_option maxRecDepth 100000 in
theorem k1_L_sampled (l : Launch) (hl0 : l.stackTraces = false) (G : GT) (ad : Nat → Nat) (o : Nat) (sg : RRT) (st gr : Int32) (hk : ¬ (okA st 0 2 ∧ okA gr 0 3)) : Ck 1 1 6 l yL_sampled wsL_sampled { frames := 8, cells := 1, slots := 6, locals := 158 } G (wRR G ad o sg) (wRR G ad o sg) [.ref (ad o), .int st, .int gr] (some (.int (-9999002))) := by
  intro sz
  refine met_ofWH (cc := cL_sampled) (maxL := 4) (ret := (some .int)) (hh := [(0, 6, 7, 13)]) (by decide) rfl ?_
  intro p e s m args below meth c s₁ B hml hv
  obtain ⟨rfl, hsz, hP, hY, hD0, hZ0⟩ := hv
  subst hsz
  have hD := hD0.self (sz := s.heap.size)
  generalize hAe : va_A (wRR G ad o sg) s.heap.size = A at hD hZ0 ⊢
  have hZ : Zs A s s.heap := hZ0
  have hA : ∀ q : Nat, s.heap.size ≤ q → A q := fun q h => by rw [← hAe]; exact Or.inr h
  have hS : va_S A s.heap s.heap [] := va_S.rf
  have hx := B.exec
  have hb := B.bytes
  have hr := B.returns
  have hts := atoms_spec (ws := wsL_sampled) B.pre
  have hown : s.vm.findClass RL = some m.cls := findClass_of_methodNamed B.named
  have hlk := B.notSynchronized
  have CF : CallFix p m c cL_sampled 4 s _ wsL_sampled RL := ⟨hx, hb, hml, hown, hts⟩
  have kx0 := hts (.classLink RL 13 "java/lang/IllegalArgumentException") (List.mem_cons_of_mem _ (List.mem_append_left _ (List.mem_append_left _ (List.mem_append_left _ (List.mem_append_left _ (List.mem_append_left _ (List.mem_of_getElem? (i := 0) rfl)))))))
  have htab := vx_table (x := yL_sampled) B (hts (.codeWith yL_sampled cL_sampled 4 (some .int) [(0, 6, 7, 13)]) List.mem_cons_self)
  have kc15 := hts (.constant RL 15 (-9999002)) (List.mem_cons_of_mem _ (List.mem_append_left _ (List.mem_append_left _ (List.mem_append_left _ (List.mem_append_left _ (List.mem_append_left _ (List.mem_of_getElem? (i := 1) rfl)))))))
  have hl := lv_entry ([.ref (ad o), .int st, .int gr]) (n := 4) (Nat.le_of_ble_eq_true rfl)
  rw [lg_entry_eq]
  generalize (lg_sl ([.ref (ad o), .int st, .int gr]) ++ List.replicate (4 - (lg_sl ([.ref (ad o), .int st, .int gr])).length) Slot.unset).toArray = ls at hl ⊢
  have hl : lv_has ls 4 [(0, .ref (ad o)), (1, .int st), (2, .int gr)] := hl
  refine lv_aload_n hx hb dL_sampled_0 rfl (lv_at hl 0 rfl) ?_
  refine lv_iload_n hx hb dL_sampled_1 rfl (lv_at hl 1 rfl) ?_
  refine lv_iload_n hx hb dL_sampled_2 rfl (lv_at hl 2 rfl) ?_
  have hP9 := hP
  have hD9 := hD
  rw [← List.append_nil (wRR G ad o sg)] at hP9 hD9
  refine noV [] (wRR G ad o sg) [] (wRR G ad o sg) (As := [.int st, .int gr]) (rest := []) CF (kn_X6_sampledWeight l hl0 G ad o sg st gr hk) (cwV 2 hts gL_sampled_X6_sampledWeight rfl rfl rfl (by decide +kernel) ⟨Nat.le_of_ble_eq_true rfl, Nat.le_of_ble_eq_true rfl⟩) hP9 hD9 hS hA hY hZ rfl rfl (fst_RR _ _ _ _ _) rfl hl.1 rfl (lv_room (Nat.le_of_ble_eq_true rfl)) dL_sampled_3 ⟨Nat.le_of_ble_eq_true rfl, Nat.le_of_ble_eq_true rfl⟩ (fun ce q9 H locs hP hD hS hce hcv hcl hgr => ?_)
  rw [List.append_nil] at hP hD
  have hP : va_P G.1 vwCl (wRR G ad o sg) H := hP
  have hD : va_D A (wRR G ad o sg) := hD
  refine vx_catch (own := RL) (name := "java/lang/IllegalArgumentException") hown [] ⟨0, 6, 7, 13⟩ [] htab (fun z hz => nomatch hz) rfl (by decide) kx0 (va_Nw.use rfl (hY.2.1 (.castable "java/lang/IllegalArgumentException" "java/lang/IllegalArgumentException") (List.mem_of_getElem? (i := 39) rfl))) hce hcv hcl ?_
  refine lv_astore_n (lv' := [(3, .ref q9), (0, .ref (ad o)), (1, .int st), (2, .int gr)]) hx hb dL_sampled_7 rfl hl (by decide) rfl (fun ls hl => ?_)
  refine lv_ldc hx hb hown kc15 dL_sampled_8 ?_
  exact ck_iret hx hb hr hlk hS hP hgr.1 (by first | with_reducible rfl | (simp only [sld_eq, ↓reduceIte]; done)) (by first | with_reducible rfl | (simp only [sld_eq, ↓reduceIte]; done)) dL_sampled_10
