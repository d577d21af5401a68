set_option maxHeartbeats 4000000 in
set_option maxRecDepth 100000 in
theorem k1_L_distinctSize (l : Launch) (hl0 : l.stackTraces = false) (G : GT) (ad : Nat → Nat) (o : Nat) (sg : RRT) (st : Int32) (hk : ¬ (okA st 0 2)) : Ck 1 1 6 l yL_distinctSize wsL_distinctSize { frames := 8, cells := 1, slots := 6, locals := 143 } G (wRR G ad o sg) (wRR G ad o sg) [.ref (ad o), .int st] (some (.int (-9999002))) := by
  intro sz
  refine met_ofWH (cc := cL_distinctSize) (maxL := 3) (ret := (some .int)) (hh := [(0, 5, 6, 13)]) (by decide) rfl ?_
  intro p e s m args below meth c s₁ B hml hv
  obtain ⟨rfl, hsz, hP, hY, hD0, hZ0⟩ := hv
  subst hsz
  have hD := hD0.self (sz := s.heap.size)
  generalize hAe : va_A (wRR G ad o sg) s.heap.size = A at hD hZ0 ⊢
  have hZ : Zs A s s.heap := hZ0
  have hA : ∀ q : Nat, s.heap.size ≤ q → A q := fun q h => by rw [← hAe]; exact Or.inr h
  have hS : va_S A s.heap s.heap [] := va_S.rf
  have hx := B.exec
  have hb := B.bytes
  have hr := B.returns
  have hts := atoms_spec (ws := wsL_distinctSize) B.pre
  have hown : s.vm.findClass RL = some m.cls := findClass_of_methodNamed B.named
  have hlk := B.notSynchronized
  have CF : CallFix p m c cL_distinctSize 3 s _ wsL_distinctSize RL := ⟨hx, hb, hml, hown, hts⟩
  have kx0 := hts (.classLink RL 13 "java/lang/IllegalArgumentException") (List.mem_cons_of_mem _ (List.mem_append_left _ (List.mem_append_left _ (List.mem_append_left _ (List.mem_append_left _ (List.mem_append_left _ (List.mem_of_getElem? (i := 0) rfl)))))))
  have htab := vx_table (x := yL_distinctSize) B (hts (.codeWith yL_distinctSize cL_distinctSize 3 (some .int) [(0, 5, 6, 13)]) List.mem_cons_self)
  have kc15 := hts (.constant RL 15 (-9999002)) (List.mem_cons_of_mem _ (List.mem_append_left _ (List.mem_append_left _ (List.mem_append_left _ (List.mem_append_left _ (List.mem_append_left _ (List.mem_of_getElem? (i := 1) rfl)))))))
  have hl := lv_entry ([.ref (ad o), .int st]) (n := 3) (Nat.le_of_ble_eq_true rfl)
  rw [lg_entry_eq]
  generalize (lg_sl ([.ref (ad o), .int st]) ++ List.replicate (3 - (lg_sl ([.ref (ad o), .int st])).length) Slot.unset).toArray = ls at hl ⊢
  have hl : lv_has ls 3 [(0, .ref (ad o)), (1, .int st)] := hl
  refine lv_aload_n hx hb dL_distinctSize_0 rfl (lv_at hl 0 rfl) ?_
  refine lv_iload_n hx hb dL_distinctSize_1 rfl (lv_at hl 1 rfl) ?_
  have hP9 := hP
  have hD9 := hD
  rw [← List.append_nil (wRR G ad o sg)] at hP9 hD9
  refine noV [] (wRR G ad o sg) [] (wRR G ad o sg) (As := [.int st]) (rest := []) CF (kn_X6_distinctSize l hl0 G ad o sg st hk) (cwV 1 hts gL_distinctSize_X6_distinctSize rfl rfl rfl (by decide +kernel) ⟨Nat.le_of_ble_eq_true rfl, Nat.le_of_ble_eq_true rfl⟩) hP9 hD9 hS hA hY hZ rfl rfl (fst_RR _ _ _ _ _) rfl hl.1 rfl (lv_room (Nat.le_of_ble_eq_true rfl)) dL_distinctSize_2 ⟨Nat.le_of_ble_eq_true rfl, Nat.le_of_ble_eq_true rfl⟩ (fun ce q9 H locs hP hD hS hce hcv hcl hgr => ?_)
  rw [List.append_nil] at hP hD
  have hP : va_P G.1 vwCl (wRR G ad o sg) H := hP
  have hD : va_D A (wRR G ad o sg) := hD
  refine vx_catch (own := RL) (name := "java/lang/IllegalArgumentException") hown [] ⟨0, 5, 6, 13⟩ [] htab (fun z hz => nomatch hz) rfl (by decide) kx0 (va_Nw.use rfl (hY.2.1 (.castable "java/lang/IllegalArgumentException" "java/lang/IllegalArgumentException") (List.mem_of_getElem? (i := 39) rfl))) hce hcv hcl ?_
  refine lv_astore_n (lv' := [(2, .ref q9), (0, .ref (ad o)), (1, .int st)]) hx hb dL_distinctSize_6 rfl hl (by decide) rfl (fun ls hl => ?_)
  refine lv_ldc hx hb hown kc15 dL_distinctSize_7 ?_
  exact ck_iret hx hb hr hlk hS hP hgr.1 (by first | with_reducible rfl | (simp only [sld_eq, ↓reduceIte]; done)) (by first | with_reducible rfl | (simp only [sld_eq, ↓reduceIte]; done)) dL_distinctSize_9

set_option maxHeartbeats 4000000 in
set_option maxRecDepth 100000 in
theorem k1_L_distinctItem (l : Launch) (hl0 : l.stackTraces = false) (G : GT) (ad : Nat → Nat) (o : Nat) (sg : RRT) (st sl : Int32) (hk : ¬ (okA st 0 2)) : Ck 1 1 6 l yL_distinctItem wsL_distinctItem { frames := 8, cells := 1, slots := 6, locals := 145 } G (wRR G ad o sg) (wRR G ad o sg) [.ref (ad o), .int st, .int sl] (some (.int (-9999002))) := by
  intro sz
  refine met_ofWH (cc := cL_distinctItem) (maxL := 4) (ret := (some .int)) (hh := [(0, 6, 7, 13), (0, 6, 11, 40)]) (by decide) rfl ?_
  intro p e s m args below meth c s₁ B hml hv
  obtain ⟨rfl, hsz, hP, hY, hD0, hZ0⟩ := hv
  subst hsz
  have hD := hD0.self (sz := s.heap.size)
  generalize hAe : va_A (wRR G ad o sg) s.heap.size = A at hD hZ0 ⊢
  have hZ : Zs A s s.heap := hZ0
  have hA : ∀ q : Nat, s.heap.size ≤ q → A q := fun q h => by rw [← hAe]; exact Or.inr h
  have hS : va_S A s.heap s.heap [] := va_S.rf
  have hx := B.exec
  have hb := B.bytes
  have hr := B.returns
  have hts := atoms_spec (ws := wsL_distinctItem) B.pre
  have hown : s.vm.findClass RL = some m.cls := findClass_of_methodNamed B.named
  have hlk := B.notSynchronized
  have CF : CallFix p m c cL_distinctItem 4 s _ wsL_distinctItem RL := ⟨hx, hb, hml, hown, hts⟩
  have kx0 := hts (.classLink RL 13 "java/lang/IllegalArgumentException") (List.mem_cons_of_mem _ (List.mem_append_left _ (List.mem_append_left _ (List.mem_append_left _ (List.mem_append_left _ (List.mem_append_left _ (List.mem_append_left _ (List.mem_of_getElem? (i := 0) rfl))))))))
  have htab := vx_table (x := yL_distinctItem) B (hts (.codeWith yL_distinctItem cL_distinctItem 4 (some .int) [(0, 6, 7, 13), (0, 6, 11, 40)]) List.mem_cons_self)
  have kc15 := hts (.constant RL 15 (-9999002)) (List.mem_cons_of_mem _ (List.mem_append_left _ (List.mem_append_left _ (List.mem_append_left _ (List.mem_append_left _ (List.mem_append_left _ (List.mem_append_left _ (List.mem_of_getElem? (i := 2) rfl))))))))
  have hl := lv_entry ([.ref (ad o), .int st, .int sl]) (n := 4) (Nat.le_of_ble_eq_true rfl)
  rw [lg_entry_eq]
  generalize (lg_sl ([.ref (ad o), .int st, .int sl]) ++ List.replicate (4 - (lg_sl ([.ref (ad o), .int st, .int sl])).length) Slot.unset).toArray = ls at hl ⊢
  have hl : lv_has ls 4 [(0, .ref (ad o)), (1, .int st), (2, .int sl)] := hl
  refine lv_aload_n hx hb dL_distinctItem_0 rfl (lv_at hl 0 rfl) ?_
  refine lv_iload_n hx hb dL_distinctItem_1 rfl (lv_at hl 1 rfl) ?_
  refine lv_iload_n hx hb dL_distinctItem_2 rfl (lv_at hl 2 rfl) ?_
  have hP9 := hP
  have hD9 := hD
  rw [← List.append_nil (wRR G ad o sg)] at hP9 hD9
  refine noV [] (wRR G ad o sg) [] (wRR G ad o sg) (As := [.int st, .int sl]) (rest := []) CF (kn_X6_distinctItem l hl0 G ad o sg st sl hk) (cwV 2 hts gL_distinctItem_X6_distinctItem rfl rfl rfl (by decide +kernel) ⟨Nat.le_of_ble_eq_true rfl, Nat.le_of_ble_eq_true rfl⟩) hP9 hD9 hS hA hY hZ rfl rfl (fst_RR _ _ _ _ _) rfl hl.1 rfl (lv_room (Nat.le_of_ble_eq_true rfl)) dL_distinctItem_3 ⟨Nat.le_of_ble_eq_true rfl, Nat.le_of_ble_eq_true rfl⟩ (fun ce q9 H locs hP hD hS hce hcv hcl hgr => ?_)
  rw [List.append_nil] at hP hD
  have hP : va_P G.1 vwCl (wRR G ad o sg) H := hP
  have hD : va_D A (wRR G ad o sg) := hD
  refine vx_catch (own := RL) (name := "java/lang/IllegalArgumentException") hown [] ⟨0, 6, 7, 13⟩ [⟨0, 6, 11, 40⟩] htab (fun z hz => nomatch hz) rfl (by decide) kx0 (va_Nw.use rfl (hY.2.1 (.castable "java/lang/IllegalArgumentException" "java/lang/IllegalArgumentException") (List.mem_of_getElem? (i := 39) rfl))) hce hcv hcl ?_
  refine lv_astore_n (lv' := [(3, .ref q9), (0, .ref (ad o)), (1, .int st), (2, .int sl)]) hx hb dL_distinctItem_7 rfl hl (by decide) rfl (fun ls hl => ?_)
  refine lv_ldc hx hb hown kc15 dL_distinctItem_8 ?_
  exact ck_iret hx hb hr hlk hS hP hgr.1 (by first | with_reducible rfl | (simp only [sld_eq, ↓reduceIte]; done)) (by first | with_reducible rfl | (simp only [sld_eq, ↓reduceIte]; done)) dL_distinctItem_10

set_option maxHeartbeats 4000000 in
set_option maxRecDepth 100000 in
theorem k2_L_distinctItem (l : Launch) (hl0 : l.stackTraces = false) (G : GT) (ad : Nat → Nat) (o : Nat) (sg : RRT) (st sl : Int32) (h0 : okA st 0 2) (hs : ¬ okP sl (rrDis sg st).2.1) : Ck 1 1 6 l yL_distinctItem wsL_distinctItem { frames := 8, cells := 1, slots := 6, locals := 145 } G (wRR G ad o sg) (wRR G ad o (rrMD sg st)) [.ref (ad o), .int st, .int sl] (some (.int (-9999001))) := by
  intro sz
  refine met_ofWH (cc := cL_distinctItem) (maxL := 4) (ret := (some .int)) (hh := [(0, 6, 7, 13), (0, 6, 11, 40)]) (by decide) rfl ?_
  intro p e s m args below meth c s₁ B hml hv
  obtain ⟨rfl, hsz, hP, hY, hD0, hZ0⟩ := hv
  subst hsz
  have hD := hD0.self (sz := s.heap.size)
  generalize hAe : va_A (wRR G ad o sg) s.heap.size = A at hD hZ0 ⊢
  have hZ : Zs A s s.heap := hZ0
  have hA : ∀ q : Nat, s.heap.size ≤ q → A q := fun q h => by rw [← hAe]; exact Or.inr h
  have hS : va_S A s.heap s.heap [] := va_S.rf
  have hx := B.exec
  have hb := B.bytes
  have hr := B.returns
  have hts := atoms_spec (ws := wsL_distinctItem) B.pre
  have hown : s.vm.findClass RL = some m.cls := findClass_of_methodNamed B.named
  have hlk := B.notSynchronized
  have CF : CallFix p m c cL_distinctItem 4 s _ wsL_distinctItem RL := ⟨hx, hb, hml, hown, hts⟩
  have kx1 := hts (.classLink RL 40 "java/lang/IndexOutOfBoundsException") (List.mem_cons_of_mem _ (List.mem_append_left _ (List.mem_append_left _ (List.mem_append_left _ (List.mem_append_left _ (List.mem_append_left _ (List.mem_append_left _ (List.mem_of_getElem? (i := 1) rfl))))))))
  have kx0 := hts (.classLink RL 13 "java/lang/IllegalArgumentException") (List.mem_cons_of_mem _ (List.mem_append_left _ (List.mem_append_left _ (List.mem_append_left _ (List.mem_append_left _ (List.mem_append_left _ (List.mem_append_left _ (List.mem_of_getElem? (i := 0) rfl))))))))
  have htab := vx_table (x := yL_distinctItem) B (hts (.codeWith yL_distinctItem cL_distinctItem 4 (some .int) [(0, 6, 7, 13), (0, 6, 11, 40)]) List.mem_cons_self)
  have kc42 := hts (.constant RL 42 (-9999001)) (List.mem_cons_of_mem _ (List.mem_append_left _ (List.mem_append_left _ (List.mem_append_left _ (List.mem_append_left _ (List.mem_append_left _ (List.mem_append_left _ (List.mem_of_getElem? (i := 3) rfl))))))))
  have hl := lv_entry ([.ref (ad o), .int st, .int sl]) (n := 4) (Nat.le_of_ble_eq_true rfl)
  rw [lg_entry_eq]
  generalize (lg_sl ([.ref (ad o), .int st, .int sl]) ++ List.replicate (4 - (lg_sl ([.ref (ad o), .int st, .int sl])).length) Slot.unset).toArray = ls at hl ⊢
  have hl : lv_has ls 4 [(0, .ref (ad o)), (1, .int st), (2, .int sl)] := hl
  refine lv_aload_n hx hb dL_distinctItem_0 rfl (lv_at hl 0 rfl) ?_
  refine lv_iload_n hx hb dL_distinctItem_1 rfl (lv_at hl 1 rfl) ?_
  refine lv_iload_n hx hb dL_distinctItem_2 rfl (lv_at hl 2 rfl) ?_
  have hP9 := hP
  have hD9 := hD
  rw [← List.append_nil (wRR G ad o sg)] at hP9 hD9
  refine noV [] (wRR G ad o sg) [] (wRR G ad o (rrMD sg st)) (As := [.int st, .int sl]) (rest := []) CF (kn2_X6_distinctItem l hl0 G ad o sg st sl h0 hs) (cwV 2 hts gL_distinctItem_X6_distinctItem rfl rfl rfl (by decide +kernel) ⟨Nat.le_of_ble_eq_true rfl, Nat.le_of_ble_eq_true rfl⟩) hP9 hD9 hS hA hY hZ rfl rfl (fst_RR _ _ _ _ _) rfl hl.1 rfl (lv_room (Nat.le_of_ble_eq_true rfl)) dL_distinctItem_3 ⟨Nat.le_of_ble_eq_true rfl, Nat.le_of_ble_eq_true rfl⟩ (fun ce q9 H locs hP hD hS hce hcv hcl hgr => ?_)
  rw [List.append_nil] at hP hD
  have hP : va_P G.1 vwCl (wRR G ad o (rrMD sg st)) H := hP
  have hD : va_D A (wRR G ad o (rrMD sg st)) := hD
  refine vx_catch (own := RL) (name := "java/lang/IndexOutOfBoundsException") hown [⟨0, 6, 7, 13⟩] ⟨0, 6, 11, 40⟩ [] htab (fun z hz => by rcases List.mem_singleton.mp hz with rfl; exact Or.inr ⟨by decide, _, kx0, hY.2.2.1 ("java/lang/IndexOutOfBoundsException", "java/lang/IllegalArgumentException") (List.mem_of_getElem? (i := 1) rfl)⟩) rfl (by decide) kx1 (va_Nw.use rfl (hY.2.1 (.castable "java/lang/IndexOutOfBoundsException" "java/lang/IndexOutOfBoundsException") (List.mem_of_getElem? (i := 41) rfl))) hce hcv hcl ?_
  refine lv_astore_n (lv' := [(3, .ref q9), (0, .ref (ad o)), (1, .int st), (2, .int sl)]) hx hb dL_distinctItem_11 rfl hl (by decide) rfl (fun ls hl => ?_)
  refine lv_ldc hx hb hown kc42 dL_distinctItem_12 ?_
  exact ck_iret hx hb hr hlk hS hP hgr.1 (by first | with_reducible rfl | (simp only [sld_eq, ↓reduceIte]; done)) (by first | with_reducible rfl | (simp only [sld_eq, ↓reduceIte]; done)) dL_distinctItem_14

set_option maxHeartbeats 4000000 in
set_option maxRecDepth 100000 in
theorem k2_L_distinctOffers (l : Launch) (hl0 : l.stackTraces = false) (G : GT) (ad : Nat → Nat) (o : Nat) (sg : RRT) (st sl : Int32) (h0 : okA st 0 2) (hs : ¬ okP sl (rrDis sg st).2.1) : Ck 1 1 6 l yL_distinctOffers wsL_distinctOffers { frames := 8, cells := 1, slots := 6, locals := 145 } G (wRR G ad o sg) (wRR G ad o (rrMD sg st)) [.ref (ad o), .int st, .int sl] (some (.int (-9999001))) := by
  intro sz
  refine met_ofWH (cc := cL_distinctOffers) (maxL := 4) (ret := (some .int)) (hh := [(0, 6, 7, 13), (0, 6, 11, 40)]) (by decide) rfl ?_
  intro p e s m args below meth c s₁ B hml hv
  obtain ⟨rfl, hsz, hP, hY, hD0, hZ0⟩ := hv
  subst hsz
  have hD := hD0.self (sz := s.heap.size)
  generalize hAe : va_A (wRR G ad o sg) s.heap.size = A at hD hZ0 ⊢
  have hZ : Zs A s s.heap := hZ0
  have hA : ∀ q : Nat, s.heap.size ≤ q → A q := fun q h => by rw [← hAe]; exact Or.inr h
  have hS : va_S A s.heap s.heap [] := va_S.rf
  have hx := B.exec
  have hb := B.bytes
  have hr := B.returns
  have hts := atoms_spec (ws := wsL_distinctOffers) B.pre
  have hown : s.vm.findClass RL = some m.cls := findClass_of_methodNamed B.named
  have hlk := B.notSynchronized
  have CF : CallFix p m c cL_distinctOffers 4 s _ wsL_distinctOffers RL := ⟨hx, hb, hml, hown, hts⟩
  have kx1 := hts (.classLink RL 40 "java/lang/IndexOutOfBoundsException") (List.mem_cons_of_mem _ (List.mem_append_left _ (List.mem_append_left _ (List.mem_append_left _ (List.mem_append_left _ (List.mem_append_left _ (List.mem_append_left _ (List.mem_of_getElem? (i := 1) rfl))))))))
  have kx0 := hts (.classLink RL 13 "java/lang/IllegalArgumentException") (List.mem_cons_of_mem _ (List.mem_append_left _ (List.mem_append_left _ (List.mem_append_left _ (List.mem_append_left _ (List.mem_append_left _ (List.mem_append_left _ (List.mem_of_getElem? (i := 0) rfl))))))))
  have htab := vx_table (x := yL_distinctOffers) B (hts (.codeWith yL_distinctOffers cL_distinctOffers 4 (some .int) [(0, 6, 7, 13), (0, 6, 11, 40)]) List.mem_cons_self)
  have kc42 := hts (.constant RL 42 (-9999001)) (List.mem_cons_of_mem _ (List.mem_append_left _ (List.mem_append_left _ (List.mem_append_left _ (List.mem_append_left _ (List.mem_append_left _ (List.mem_append_left _ (List.mem_of_getElem? (i := 3) rfl))))))))
  have hl := lv_entry ([.ref (ad o), .int st, .int sl]) (n := 4) (Nat.le_of_ble_eq_true rfl)
  rw [lg_entry_eq]
  generalize (lg_sl ([.ref (ad o), .int st, .int sl]) ++ List.replicate (4 - (lg_sl ([.ref (ad o), .int st, .int sl])).length) Slot.unset).toArray = ls at hl ⊢
  have hl : lv_has ls 4 [(0, .ref (ad o)), (1, .int st), (2, .int sl)] := hl
  refine lv_aload_n hx hb dL_distinctOffers_0 rfl (lv_at hl 0 rfl) ?_
  refine lv_iload_n hx hb dL_distinctOffers_1 rfl (lv_at hl 1 rfl) ?_
  refine lv_iload_n hx hb dL_distinctOffers_2 rfl (lv_at hl 2 rfl) ?_
  have hP9 := hP
  have hD9 := hD
  rw [← List.append_nil (wRR G ad o sg)] at hP9 hD9
  refine noV [] (wRR G ad o sg) [] (wRR G ad o (rrMD sg st)) (As := [.int st, .int sl]) (rest := []) CF (kn2_X6_distinctOffers l hl0 G ad o sg st sl h0 hs) (cwV 2 hts gL_distinctOffers_X6_distinctOffers rfl rfl rfl (by decide +kernel) ⟨Nat.le_of_ble_eq_true rfl, Nat.le_of_ble_eq_true rfl⟩) hP9 hD9 hS hA hY hZ rfl rfl (fst_RR _ _ _ _ _) rfl hl.1 rfl (lv_room (Nat.le_of_ble_eq_true rfl)) dL_distinctOffers_3 ⟨Nat.le_of_ble_eq_true rfl, Nat.le_of_ble_eq_true rfl⟩ (fun ce q9 H locs hP hD hS hce hcv hcl hgr => ?_)
  rw [List.append_nil] at hP hD
  have hP : va_P G.1 vwCl (wRR G ad o (rrMD sg st)) H := hP
  have hD : va_D A (wRR G ad o (rrMD sg st)) := hD
  refine vx_catch (own := RL) (name := "java/lang/IndexOutOfBoundsException") hown [⟨0, 6, 7, 13⟩] ⟨0, 6, 11, 40⟩ [] htab (fun z hz => by rcases List.mem_singleton.mp hz with rfl; exact Or.inr ⟨by decide, _, kx0, hY.2.2.1 ("java/lang/IndexOutOfBoundsException", "java/lang/IllegalArgumentException") (List.mem_of_getElem? (i := 1) rfl)⟩) rfl (by decide) kx1 (va_Nw.use rfl (hY.2.1 (.castable "java/lang/IndexOutOfBoundsException" "java/lang/IndexOutOfBoundsException") (List.mem_of_getElem? (i := 41) rfl))) hce hcv hcl ?_
  refine lv_astore_n (lv' := [(3, .ref q9), (0, .ref (ad o)), (1, .int st), (2, .int sl)]) hx hb dL_distinctOffers_11 rfl hl (by decide) rfl (fun ls hl => ?_)
  refine lv_ldc hx hb hown kc42 dL_distinctOffers_12 ?_
  exact ck_iret hx hb hr hlk hS hP hgr.1 (by first | with_reducible rfl | (simp only [sld_eq, ↓reduceIte]; done)) (by first | with_reducible rfl | (simp only [sld_eq, ↓reduceIte]; done)) dL_distinctOffers_14

set_option maxHeartbeats 4000000 in
set_option maxRecDepth 100000 in
theorem k1_L_distinctEstimate (l : Launch) (hl0 : l.stackTraces = false) (G : GT) (ad : Nat → Nat) (o : Nat) (sg : RRT) (st : Int32) (hk : ¬ (okA st 0 2)) : Ck 1 1 6 l yL_distinctEstimate wsL_distinctEstimate { frames := 8, cells := 1, slots := 6, locals := 143 } G (wRR G ad o sg) (wRR G ad o sg) [.ref (ad o), .int st] (some (.long (-9999002))) := by
  intro sz
  refine met_ofWH (cc := cL_distinctEstimate) (maxL := 3) (ret := (some .long)) (hh := [(0, 5, 6, 13)]) (by decide) rfl ?_
  intro p e s m args below meth c s₁ B hml hv
  obtain ⟨rfl, hsz, hP, hY, hD0, hZ0⟩ := hv
  subst hsz
  have hD := hD0.self (sz := s.heap.size)
  generalize hAe : va_A (wRR G ad o sg) s.heap.size = A at hD hZ0 ⊢
  have hZ : Zs A s s.heap := hZ0
  have hA : ∀ q : Nat, s.heap.size ≤ q → A q := fun q h => by rw [← hAe]; exact Or.inr h
  have hS : va_S A s.heap s.heap [] := va_S.rf
  have hx := B.exec
  have hb := B.bytes
  have hr := B.returns
  have hts := atoms_spec (ws := wsL_distinctEstimate) B.pre
  have hown : s.vm.findClass RL = some m.cls := findClass_of_methodNamed B.named
  have hlk := B.notSynchronized
  have CF : CallFix p m c cL_distinctEstimate 3 s _ wsL_distinctEstimate RL := ⟨hx, hb, hml, hown, hts⟩
  have kx0 := hts (.classLink RL 13 "java/lang/IllegalArgumentException") (List.mem_cons_of_mem _ (List.mem_append_left _ (List.mem_append_left _ (List.mem_append_left _ (List.mem_append_left _ (List.mem_append_left _ (List.mem_of_getElem? (i := 0) rfl)))))))
  have htab := vx_table (x := yL_distinctEstimate) B (hts (.codeWith yL_distinctEstimate cL_distinctEstimate 3 (some .long) [(0, 5, 6, 13)]) List.mem_cons_self)
  have kc63 := hts (.constantLong RL 63 (-9999002)) (List.mem_cons_of_mem _ (List.mem_append_left _ (List.mem_append_left _ (List.mem_append_left _ (List.mem_append_left _ (List.mem_append_left _ (List.mem_of_getElem? (i := 1) rfl)))))))
  have hl := lv_entry ([.ref (ad o), .int st]) (n := 3) (Nat.le_of_ble_eq_true rfl)
  rw [lg_entry_eq]
  generalize (lg_sl ([.ref (ad o), .int st]) ++ List.replicate (3 - (lg_sl ([.ref (ad o), .int st])).length) Slot.unset).toArray = ls at hl ⊢
  have hl : lv_has ls 3 [(0, .ref (ad o)), (1, .int st)] := hl
  refine lv_aload_n hx hb dL_distinctEstimate_0 rfl (lv_at hl 0 rfl) ?_
  refine lv_iload_n hx hb dL_distinctEstimate_1 rfl (lv_at hl 1 rfl) ?_
  have hP9 := hP
  have hD9 := hD
  rw [← List.append_nil (wRR G ad o sg)] at hP9 hD9
  refine noV [] (wRR G ad o sg) [] (wRR G ad o sg) (As := [.int st]) (rest := []) CF (kn_X6_distinctEstimate l hl0 G ad o sg st hk) (cwV 1 hts gL_distinctEstimate_X6_distinctEstimate rfl rfl rfl (by decide +kernel) ⟨Nat.le_of_ble_eq_true rfl, Nat.le_of_ble_eq_true rfl⟩) hP9 hD9 hS hA hY hZ rfl rfl (fst_RR _ _ _ _ _) rfl hl.1 rfl (lv_room (Nat.le_of_ble_eq_true rfl)) dL_distinctEstimate_2 ⟨Nat.le_of_ble_eq_true rfl, Nat.le_of_ble_eq_true rfl⟩ (fun ce q9 H locs hP hD hS hce hcv hcl hgr => ?_)
  rw [List.append_nil] at hP hD
  have hP : va_P G.1 vwCl (wRR G ad o sg) H := hP
  have hD : va_D A (wRR G ad o sg) := hD
  refine vx_catch (own := RL) (name := "java/lang/IllegalArgumentException") hown [] ⟨0, 5, 6, 13⟩ [] htab (fun z hz => nomatch hz) rfl (by decide) kx0 (va_Nw.use rfl (hY.2.1 (.castable "java/lang/IllegalArgumentException" "java/lang/IllegalArgumentException") (List.mem_of_getElem? (i := 39) rfl))) hce hcv hcl ?_
  refine lv_astore_n (lv' := [(2, .ref q9), (0, .ref (ad o)), (1, .int st)]) hx hb dL_distinctEstimate_6 rfl hl (by decide) rfl (fun ls hl => ?_)
  refine lv_ldc2 hx hb hown kc63 dL_distinctEstimate_7 ?_
  exact ck_lret hx hb hr hlk hS hP hgr.1 (by first | with_reducible rfl | (simp only [sld_eq, ↓reduceIte]; done)) (by first | with_reducible rfl | (simp only [sld_eq, ↓reduceIte]; done)) dL_distinctEstimate_10

set_option maxHeartbeats 4000000 in
set_option maxRecDepth 100000 in
theorem k1_L_windowItem (l : Launch) (hl0 : l.stackTraces = false) (G : GT) (ad : Nat → Nat) (o : Nat) (sg : RRT) (st : Int32) (hk : ¬ (okA st 0 1)) : Ck 1 1 6 l yL_windowItem wsL_windowItem { frames := 8, cells := 1, slots := 6, locals := 144 } G (wRR G ad o sg) (wRR G ad o sg) [.ref (ad o), .int st] (some (.int (-9999002))) := by
  intro sz
  refine met_ofWH (cc := cL_windowItem) (maxL := 3) (ret := (some .int)) (hh := [(0, 5, 6, 13), (0, 5, 10, 20)]) (by decide) rfl ?_
  intro p e s m args below meth c s₁ B hml hv
  obtain ⟨rfl, hsz, hP, hY, hD0, hZ0⟩ := hv
  subst hsz
  have hD := hD0.self (sz := s.heap.size)
  generalize hAe : va_A (wRR G ad o sg) s.heap.size = A at hD hZ0 ⊢
  have hZ : Zs A s s.heap := hZ0
  have hA : ∀ q : Nat, s.heap.size ≤ q → A q := fun q h => by rw [← hAe]; exact Or.inr h
  have hS : va_S A s.heap s.heap [] := va_S.rf
  have hx := B.exec
  have hb := B.bytes
  have hr := B.returns
  have hts := atoms_spec (ws := wsL_windowItem) B.pre
  have hown : s.vm.findClass RL = some m.cls := findClass_of_methodNamed B.named
  have hlk := B.notSynchronized
  have CF : CallFix p m c cL_windowItem 3 s _ wsL_windowItem RL := ⟨hx, hb, hml, hown, hts⟩
  have kx0 := hts (.classLink RL 13 "java/lang/IllegalArgumentException") (List.mem_cons_of_mem _ (List.mem_append_left _ (List.mem_append_left _ (List.mem_append_left _ (List.mem_append_left _ (List.mem_append_left _ (List.mem_append_left _ (List.mem_of_getElem? (i := 0) rfl))))))))
  have htab := vx_table (x := yL_windowItem) B (hts (.codeWith yL_windowItem cL_windowItem 3 (some .int) [(0, 5, 6, 13), (0, 5, 10, 20)]) List.mem_cons_self)
  have kc15 := hts (.constant RL 15 (-9999002)) (List.mem_cons_of_mem _ (List.mem_append_left _ (List.mem_append_left _ (List.mem_append_left _ (List.mem_append_left _ (List.mem_append_left _ (List.mem_append_left _ (List.mem_of_getElem? (i := 2) rfl))))))))
  have hl := lv_entry ([.ref (ad o), .int st]) (n := 3) (Nat.le_of_ble_eq_true rfl)
  rw [lg_entry_eq]
  generalize (lg_sl ([.ref (ad o), .int st]) ++ List.replicate (3 - (lg_sl ([.ref (ad o), .int st])).length) Slot.unset).toArray = ls at hl ⊢
  have hl : lv_has ls 3 [(0, .ref (ad o)), (1, .int st)] := hl
  refine lv_aload_n hx hb dL_windowItem_0 rfl (lv_at hl 0 rfl) ?_
  refine lv_iload_n hx hb dL_windowItem_1 rfl (lv_at hl 1 rfl) ?_
  have hP9 := hP
  have hD9 := hD
  rw [← List.append_nil (wRR G ad o sg)] at hP9 hD9
  refine noV [] (wRR G ad o sg) [] (wRR G ad o sg) (As := [.int st]) (rest := []) CF (kn_X6_windowItem l hl0 G ad o sg st hk) (cwV 1 hts gL_windowItem_X6_windowItem rfl rfl rfl (by decide +kernel) ⟨Nat.le_of_ble_eq_true rfl, Nat.le_of_ble_eq_true rfl⟩) hP9 hD9 hS hA hY hZ rfl rfl (fst_RR _ _ _ _ _) rfl hl.1 rfl (lv_room (Nat.le_of_ble_eq_true rfl)) dL_windowItem_2 ⟨Nat.le_of_ble_eq_true rfl, Nat.le_of_ble_eq_true rfl⟩ (fun ce q9 H locs hP hD hS hce hcv hcl hgr => ?_)
  rw [List.append_nil] at hP hD
  have hP : va_P G.1 vwCl (wRR G ad o sg) H := hP
  have hD : va_D A (wRR G ad o sg) := hD
  refine vx_catch (own := RL) (name := "java/lang/IllegalArgumentException") hown [] ⟨0, 5, 6, 13⟩ [⟨0, 5, 10, 20⟩] htab (fun z hz => nomatch hz) rfl (by decide) kx0 (va_Nw.use rfl (hY.2.1 (.castable "java/lang/IllegalArgumentException" "java/lang/IllegalArgumentException") (List.mem_of_getElem? (i := 39) rfl))) hce hcv hcl ?_
  refine lv_astore_n (lv' := [(2, .ref q9), (0, .ref (ad o)), (1, .int st)]) hx hb dL_windowItem_6 rfl hl (by decide) rfl (fun ls hl => ?_)
  refine lv_ldc hx hb hown kc15 dL_windowItem_7 ?_
  exact ck_iret hx hb hr hlk hS hP hgr.1 (by first | with_reducible rfl | (simp only [sld_eq, ↓reduceIte]; done)) (by first | with_reducible rfl | (simp only [sld_eq, ↓reduceIte]; done)) dL_windowItem_9

set_option maxHeartbeats 4000000 in
set_option maxRecDepth 100000 in
theorem k1_L_windowPosition (l : Launch) (hl0 : l.stackTraces = false) (G : GT) (ad : Nat → Nat) (o : Nat) (sg : RRT) (st : Int32) (hk : ¬ (okA st 0 1)) : Ck 1 1 6 l yL_windowPosition wsL_windowPosition { frames := 8, cells := 1, slots := 6, locals := 144 } G (wRR G ad o sg) (wRR G ad o sg) [.ref (ad o), .int st] (some (.int (-9999002))) := by
  intro sz
  refine met_ofWH (cc := cL_windowPosition) (maxL := 3) (ret := (some .int)) (hh := [(0, 5, 6, 13), (0, 5, 10, 20)]) (by decide) rfl ?_
  intro p e s m args below meth c s₁ B hml hv
  obtain ⟨rfl, hsz, hP, hY, hD0, hZ0⟩ := hv
  subst hsz
  have hD := hD0.self (sz := s.heap.size)
  generalize hAe : va_A (wRR G ad o sg) s.heap.size = A at hD hZ0 ⊢
  have hZ : Zs A s s.heap := hZ0
  have hA : ∀ q : Nat, s.heap.size ≤ q → A q := fun q h => by rw [← hAe]; exact Or.inr h
  have hS : va_S A s.heap s.heap [] := va_S.rf
  have hx := B.exec
  have hb := B.bytes
  have hr := B.returns
  have hts := atoms_spec (ws := wsL_windowPosition) B.pre
  have hown : s.vm.findClass RL = some m.cls := findClass_of_methodNamed B.named
  have hlk := B.notSynchronized
  have CF : CallFix p m c cL_windowPosition 3 s _ wsL_windowPosition RL := ⟨hx, hb, hml, hown, hts⟩
  have kx0 := hts (.classLink RL 13 "java/lang/IllegalArgumentException") (List.mem_cons_of_mem _ (List.mem_append_left _ (List.mem_append_left _ (List.mem_append_left _ (List.mem_append_left _ (List.mem_append_left _ (List.mem_append_left _ (List.mem_of_getElem? (i := 0) rfl))))))))
  have htab := vx_table (x := yL_windowPosition) B (hts (.codeWith yL_windowPosition cL_windowPosition 3 (some .int) [(0, 5, 6, 13), (0, 5, 10, 20)]) List.mem_cons_self)
  have kc15 := hts (.constant RL 15 (-9999002)) (List.mem_cons_of_mem _ (List.mem_append_left _ (List.mem_append_left _ (List.mem_append_left _ (List.mem_append_left _ (List.mem_append_left _ (List.mem_append_left _ (List.mem_of_getElem? (i := 2) rfl))))))))
  have hl := lv_entry ([.ref (ad o), .int st]) (n := 3) (Nat.le_of_ble_eq_true rfl)
  rw [lg_entry_eq]
  generalize (lg_sl ([.ref (ad o), .int st]) ++ List.replicate (3 - (lg_sl ([.ref (ad o), .int st])).length) Slot.unset).toArray = ls at hl ⊢
  have hl : lv_has ls 3 [(0, .ref (ad o)), (1, .int st)] := hl
  refine lv_aload_n hx hb dL_windowPosition_0 rfl (lv_at hl 0 rfl) ?_
  refine lv_iload_n hx hb dL_windowPosition_1 rfl (lv_at hl 1 rfl) ?_
  have hP9 := hP
  have hD9 := hD
  rw [← List.append_nil (wRR G ad o sg)] at hP9 hD9
  refine noV [] (wRR G ad o sg) [] (wRR G ad o sg) (As := [.int st]) (rest := []) CF (kn_X6_windowPosition l hl0 G ad o sg st hk) (cwV 1 hts gL_windowPosition_X6_windowPosition rfl rfl rfl (by decide +kernel) ⟨Nat.le_of_ble_eq_true rfl, Nat.le_of_ble_eq_true rfl⟩) hP9 hD9 hS hA hY hZ rfl rfl (fst_RR _ _ _ _ _) rfl hl.1 rfl (lv_room (Nat.le_of_ble_eq_true rfl)) dL_windowPosition_2 ⟨Nat.le_of_ble_eq_true rfl, Nat.le_of_ble_eq_true rfl⟩ (fun ce q9 H locs hP hD hS hce hcv hcl hgr => ?_)
  rw [List.append_nil] at hP hD
  have hP : va_P G.1 vwCl (wRR G ad o sg) H := hP
  have hD : va_D A (wRR G ad o sg) := hD
  refine vx_catch (own := RL) (name := "java/lang/IllegalArgumentException") hown [] ⟨0, 5, 6, 13⟩ [⟨0, 5, 10, 20⟩] htab (fun z hz => nomatch hz) rfl (by decide) kx0 (va_Nw.use rfl (hY.2.1 (.castable "java/lang/IllegalArgumentException" "java/lang/IllegalArgumentException") (List.mem_of_getElem? (i := 39) rfl))) hce hcv hcl ?_
  refine lv_astore_n (lv' := [(2, .ref q9), (0, .ref (ad o)), (1, .int st)]) hx hb dL_windowPosition_6 rfl hl (by decide) rfl (fun ls hl => ?_)
  refine lv_ldc hx hb hown kc15 dL_windowPosition_7 ?_
  exact ck_iret hx hb hr hlk hS hP hgr.1 (by first | with_reducible rfl | (simp only [sld_eq, ↓reduceIte]; done)) (by first | with_reducible rfl | (simp only [sld_eq, ↓reduceIte]; done)) dL_windowPosition_9

set_option maxHeartbeats 4000000 in
set_option maxRecDepth 100000 in
theorem k1_L_chainLength (l : Launch) (hl0 : l.stackTraces = false) (G : GT) (ad : Nat → Nat) (o : Nat) (sg : RRT) (st : Int32) (hk : ¬ (okA st 0 1)) : Ck 1 1 6 l yL_chainLength wsL_chainLength { frames := 8, cells := 1, slots := 6, locals := 143 } G (wRR G ad o sg) (wRR G ad o sg) [.ref (ad o), .int st] (some (.int (-9999002))) := by
  intro sz
  refine met_ofWH (cc := cL_chainLength) (maxL := 3) (ret := (some .int)) (hh := [(0, 5, 6, 13)]) (by decide) rfl ?_
  intro p e s m args below meth c s₁ B hml hv
  obtain ⟨rfl, hsz, hP, hY, hD0, hZ0⟩ := hv
  subst hsz
  have hD := hD0.self (sz := s.heap.size)
  generalize hAe : va_A (wRR G ad o sg) s.heap.size = A at hD hZ0 ⊢
  have hZ : Zs A s s.heap := hZ0
  have hA : ∀ q : Nat, s.heap.size ≤ q → A q := fun q h => by rw [← hAe]; exact Or.inr h
  have hS : va_S A s.heap s.heap [] := va_S.rf
  have hx := B.exec
  have hb := B.bytes
  have hr := B.returns
  have hts := atoms_spec (ws := wsL_chainLength) B.pre
  have hown : s.vm.findClass RL = some m.cls := findClass_of_methodNamed B.named
  have hlk := B.notSynchronized
  have CF : CallFix p m c cL_chainLength 3 s _ wsL_chainLength RL := ⟨hx, hb, hml, hown, hts⟩
  have kx0 := hts (.classLink RL 13 "java/lang/IllegalArgumentException") (List.mem_cons_of_mem _ (List.mem_append_left _ (List.mem_append_left _ (List.mem_append_left _ (List.mem_append_left _ (List.mem_append_left _ (List.mem_of_getElem? (i := 0) rfl)))))))
  have htab := vx_table (x := yL_chainLength) B (hts (.codeWith yL_chainLength cL_chainLength 3 (some .int) [(0, 5, 6, 13)]) List.mem_cons_self)
  have kc15 := hts (.constant RL 15 (-9999002)) (List.mem_cons_of_mem _ (List.mem_append_left _ (List.mem_append_left _ (List.mem_append_left _ (List.mem_append_left _ (List.mem_append_left _ (List.mem_of_getElem? (i := 1) rfl)))))))
  have hl := lv_entry ([.ref (ad o), .int st]) (n := 3) (Nat.le_of_ble_eq_true rfl)
  rw [lg_entry_eq]
  generalize (lg_sl ([.ref (ad o), .int st]) ++ List.replicate (3 - (lg_sl ([.ref (ad o), .int st])).length) Slot.unset).toArray = ls at hl ⊢
  have hl : lv_has ls 3 [(0, .ref (ad o)), (1, .int st)] := hl
  refine lv_aload_n hx hb dL_chainLength_0 rfl (lv_at hl 0 rfl) ?_
  refine lv_iload_n hx hb dL_chainLength_1 rfl (lv_at hl 1 rfl) ?_
  have hP9 := hP
  have hD9 := hD
  rw [← List.append_nil (wRR G ad o sg)] at hP9 hD9
  refine noV [] (wRR G ad o sg) [] (wRR G ad o sg) (As := [.int st]) (rest := []) CF (kn_X6_chainLength l hl0 G ad o sg st hk) (cwV 1 hts gL_chainLength_X6_chainLength rfl rfl rfl (by decide +kernel) ⟨Nat.le_of_ble_eq_true rfl, Nat.le_of_ble_eq_true rfl⟩) hP9 hD9 hS hA hY hZ rfl rfl (fst_RR _ _ _ _ _) rfl hl.1 rfl (lv_room (Nat.le_of_ble_eq_true rfl)) dL_chainLength_2 ⟨Nat.le_of_ble_eq_true rfl, Nat.le_of_ble_eq_true rfl⟩ (fun ce q9 H locs hP hD hS hce hcv hcl hgr => ?_)
  rw [List.append_nil] at hP hD
  have hP : va_P G.1 vwCl (wRR G ad o sg) H := hP
  have hD : va_D A (wRR G ad o sg) := hD
  refine vx_catch (own := RL) (name := "java/lang/IllegalArgumentException") hown [] ⟨0, 5, 6, 13⟩ [] htab (fun z hz => nomatch hz) rfl (by decide) kx0 (va_Nw.use rfl (hY.2.1 (.castable "java/lang/IllegalArgumentException" "java/lang/IllegalArgumentException") (List.mem_of_getElem? (i := 39) rfl))) hce hcv hcl ?_
  refine lv_astore_n (lv' := [(2, .ref q9), (0, .ref (ad o)), (1, .int st)]) hx hb dL_chainLength_6 rfl hl (by decide) rfl (fun ls hl => ?_)
  refine lv_ldc hx hb hown kc15 dL_chainLength_7 ?_
  exact ck_iret hx hb hr hlk hS hP hgr.1 (by first | with_reducible rfl | (simp only [sld_eq, ↓reduceIte]; done)) (by first | with_reducible rfl | (simp only [sld_eq, ↓reduceIte]; done)) dL_chainLength_9

set_option maxHeartbeats 4000000 in
set_option maxRecDepth 100000 in
theorem k1_L_successor (l : Launch) (hl0 : l.stackTraces = false) (G : GT) (ad : Nat → Nat) (o : Nat) (sg : RRT) (st : Int32) (hk : ¬ (okA st 0 1)) : Ck 1 1 6 l yL_successor wsL_successor { frames := 8, cells := 1, slots := 6, locals := 144 } G (wRR G ad o sg) (wRR G ad o sg) [.ref (ad o), .int st] (some (.int (-9999002))) := by
  intro sz
  refine met_ofWH (cc := cL_successor) (maxL := 3) (ret := (some .int)) (hh := [(0, 5, 6, 13), (0, 5, 10, 20)]) (by decide) rfl ?_
  intro p e s m args below meth c s₁ B hml hv
  obtain ⟨rfl, hsz, hP, hY, hD0, hZ0⟩ := hv
  subst hsz
  have hD := hD0.self (sz := s.heap.size)
  generalize hAe : va_A (wRR G ad o sg) s.heap.size = A at hD hZ0 ⊢
  have hZ : Zs A s s.heap := hZ0
  have hA : ∀ q : Nat, s.heap.size ≤ q → A q := fun q h => by rw [← hAe]; exact Or.inr h
  have hS : va_S A s.heap s.heap [] := va_S.rf
  have hx := B.exec
  have hb := B.bytes
  have hr := B.returns
  have hts := atoms_spec (ws := wsL_successor) B.pre
  have hown : s.vm.findClass RL = some m.cls := findClass_of_methodNamed B.named
  have hlk := B.notSynchronized
  have CF : CallFix p m c cL_successor 3 s _ wsL_successor RL := ⟨hx, hb, hml, hown, hts⟩
  have kx0 := hts (.classLink RL 13 "java/lang/IllegalArgumentException") (List.mem_cons_of_mem _ (List.mem_append_left _ (List.mem_append_left _ (List.mem_append_left _ (List.mem_append_left _ (List.mem_append_left _ (List.mem_append_left _ (List.mem_of_getElem? (i := 0) rfl))))))))
  have htab := vx_table (x := yL_successor) B (hts (.codeWith yL_successor cL_successor 3 (some .int) [(0, 5, 6, 13), (0, 5, 10, 20)]) List.mem_cons_self)
  have kc15 := hts (.constant RL 15 (-9999002)) (List.mem_cons_of_mem _ (List.mem_append_left _ (List.mem_append_left _ (List.mem_append_left _ (List.mem_append_left _ (List.mem_append_left _ (List.mem_append_left _ (List.mem_of_getElem? (i := 2) rfl))))))))
  have hl := lv_entry ([.ref (ad o), .int st]) (n := 3) (Nat.le_of_ble_eq_true rfl)
  rw [lg_entry_eq]
  generalize (lg_sl ([.ref (ad o), .int st]) ++ List.replicate (3 - (lg_sl ([.ref (ad o), .int st])).length) Slot.unset).toArray = ls at hl ⊢
  have hl : lv_has ls 3 [(0, .ref (ad o)), (1, .int st)] := hl
  refine lv_aload_n hx hb dL_successor_0 rfl (lv_at hl 0 rfl) ?_
  refine lv_iload_n hx hb dL_successor_1 rfl (lv_at hl 1 rfl) ?_
  have hP9 := hP
  have hD9 := hD
  rw [← List.append_nil (wRR G ad o sg)] at hP9 hD9
  refine noV [] (wRR G ad o sg) [] (wRR G ad o sg) (As := [.int st]) (rest := []) CF (kn_X6_successor l hl0 G ad o sg st hk) (cwV 1 hts gL_successor_X6_successor rfl rfl rfl (by decide +kernel) ⟨Nat.le_of_ble_eq_true rfl, Nat.le_of_ble_eq_true rfl⟩) hP9 hD9 hS hA hY hZ rfl rfl (fst_RR _ _ _ _ _) rfl hl.1 rfl (lv_room (Nat.le_of_ble_eq_true rfl)) dL_successor_2 ⟨Nat.le_of_ble_eq_true rfl, Nat.le_of_ble_eq_true rfl⟩ (fun ce q9 H locs hP hD hS hce hcv hcl hgr => ?_)
  rw [List.append_nil] at hP hD
  have hP : va_P G.1 vwCl (wRR G ad o sg) H := hP
  have hD : va_D A (wRR G ad o sg) := hD
  refine vx_catch (own := RL) (name := "java/lang/IllegalArgumentException") hown [] ⟨0, 5, 6, 13⟩ [⟨0, 5, 10, 20⟩] htab (fun z hz => nomatch hz) rfl (by decide) kx0 (va_Nw.use rfl (hY.2.1 (.castable "java/lang/IllegalArgumentException" "java/lang/IllegalArgumentException") (List.mem_of_getElem? (i := 39) rfl))) hce hcv hcl ?_
  refine lv_astore_n (lv' := [(2, .ref q9), (0, .ref (ad o)), (1, .int st)]) hx hb dL_successor_6 rfl hl (by decide) rfl (fun ls hl => ?_)
  refine lv_ldc hx hb hown kc15 dL_successor_7 ?_
  exact ck_iret hx hb hr hlk hS hP hgr.1 (by first | with_reducible rfl | (simp only [sld_eq, ↓reduceIte]; done)) (by first | with_reducible rfl | (simp only [sld_eq, ↓reduceIte]; done)) dL_successor_9
