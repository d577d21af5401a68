set_option maxHeartbeats 4000000 in
set_option maxRecDepth 100000 in
theorem k_L_begin (l : Launch) (G : GT) (ad : Nat → Nat) (o : Nat) (sg : RRT) (k2 w2 : Int32) (h0 : okA k2 2 16) (h1 : okA w2 1 64) : Ca l yL_begin wsL_begin { frames := 8, cells := 1, slots := 6, locals := 144 } G (wRR G ad o sg) (wRR G ad o (rrStart k2 w2 sg)) [.ref (ad o), .int k2, .int w2] (some (.int 0)) := by
  intro sz
  refine met_ofWH (cc := cL_begin) (maxL := 4) (ret := (some .int)) (hh := [(0, 6, 9, 13)]) (by decide) rfl ?_
  intro p e s m args below meth c s₁ B hml hv
  obtain ⟨rfl, hsz, hP, hY, hD0, hZ0⟩ := hv
  subst hsz
  have hD := hD0.self (sz := s.heap.size)
  generalize hAe : va_A (wRR G ad o sg) s.heap.size = A at hD hZ0 ⊢
  have hZ : Zs A s s.heap := hZ0
  have hA : ∀ q : Nat, s.heap.size ≤ q → A q := fun q h => by rw [← hAe]; exact Or.inr h
  have hS : va_S A s.heap s.heap [] := va_S.rf
  have hx := B.exec
  have hb := B.bytes
  have hr := B.returns
  have hts := atoms_spec (ws := wsL_begin) B.pre
  have hown : s.vm.findClass RL = some m.cls := findClass_of_methodNamed B.named
  have hlk := B.notSynchronized
  have CF : CallFix p m c cL_begin 4 s _ wsL_begin RL := ⟨hx, hb, hml, hown, hts⟩
  have hl := lv_entry ([.ref (ad o), .int k2, .int w2]) (n := 4) (Nat.le_of_ble_eq_true rfl)
  rw [lg_entry_eq]
  generalize (lg_sl ([.ref (ad o), .int k2, .int w2]) ++ List.replicate (4 - (lg_sl ([.ref (ad o), .int k2, .int w2])).length) Slot.unset).toArray = ls at hl ⊢
  have hl : lv_has ls 4 [(0, .ref (ad o)), (1, .int k2), (2, .int w2)] := hl
  refine lv_aload_n hx hb dL_begin_0 rfl (lv_at hl 0 rfl) ?_
  refine lv_iload_n hx hb dL_begin_1 rfl (lv_at hl 1 rfl) ?_
  refine lv_iload_n hx hb dL_begin_2 rfl (lv_at hl 2 rfl) ?_
  have hP9 := hP
  have hD9 := hD
  rw [← List.append_nil (wRR G ad o sg)] at hP9 hD9
  refine wrV [] (wRR G ad o sg) [] (wRR G ad o (rrStart k2 w2 sg)) (As := [.int k2, .int w2]) (rest := []) CF (k_X6_begin l G ad o sg k2 w2 h0 h1) (cwV 2 hts gL_begin_X6_begin rfl rfl rfl (by decide +kernel) ⟨Nat.le_of_ble_eq_true rfl, Nat.le_of_ble_eq_true rfl⟩) hP9 hD9 hS hA hY rfl rfl (fst_RR _ _ _ _ _) rfl hl.1 rfl (lv_room (Nat.le_of_ble_eq_true rfl)) dL_begin_3 ⟨Nat.zero_le _, Nat.zero_le _⟩ (fun H locs hP hD hS => ?_)
  rw [List.append_nil] at hP hD
  have hP : va_P G.1 vwCl (wRR G ad o (rrStart k2 w2 sg)) H := hP
  have hD : va_D A (wRR G ad o (rrStart k2 w2 sg)) := hD
  refine lv_goto (tgt := 12) hx hb dL_begin_6 (by decide) ?_
  refine lv_iconst (v := 0) hx hb dL_begin_12 (by decide) ?_
  refine W.widen (k := 1) (n := 6) (Nat.zero_le _) (Nat.zero_le _) ?_
  exact ca_iret hx hb hr hlk hS hP (by first | with_reducible rfl | (simp only [sld_eq, ↓reduceIte]; done)) (by first | with_reducible rfl | (simp only [sld_eq, ↓reduceIte]; done)) dL_begin_13

set_option maxHeartbeats 4000000 in
set_option maxRecDepth 100000 in
theorem k1_L_begin (l : Launch) (hl0 : l.stackTraces = false) (G : GT) (ad : Nat → Nat) (o : Nat) (sg : RRT) (k2 w2 : Int32) (hk : ¬ (okA k2 2 16 ∧ okA w2 1 64)) : Ca l yL_begin wsL_begin { frames := 8, cells := 1, slots := 6, locals := 144 } G (wRR G ad o sg) (wRR G ad o sg) [.ref (ad o), .int k2, .int w2] (some (.int 1)) := by
  intro sz
  refine met_ofWH (cc := cL_begin) (maxL := 4) (ret := (some .int)) (hh := [(0, 6, 9, 13)]) (by decide) rfl ?_
  intro p e s m args below meth c s₁ B hml hv
  obtain ⟨rfl, hsz, hP, hY, hD0, hZ0⟩ := hv
  subst hsz
  have hD := hD0.self (sz := s.heap.size)
  generalize hAe : va_A (wRR G ad o sg) s.heap.size = A at hD hZ0 ⊢
  have hZ : Zs A s s.heap := hZ0
  have hA : ∀ q : Nat, s.heap.size ≤ q → A q := fun q h => by rw [← hAe]; exact Or.inr h
  have hS : va_S A s.heap s.heap [] := va_S.rf
  have hx := B.exec
  have hb := B.bytes
  have hr := B.returns
  have hts := atoms_spec (ws := wsL_begin) B.pre
  have hown : s.vm.findClass RL = some m.cls := findClass_of_methodNamed B.named
  have hlk := B.notSynchronized
  have CF : CallFix p m c cL_begin 4 s _ wsL_begin RL := ⟨hx, hb, hml, hown, hts⟩
  have kx0 := hts (.classLink RL 13 "java/lang/IllegalArgumentException") (List.mem_cons_of_mem _ (List.mem_append_left _ (List.mem_append_left _ (List.mem_append_left _ (List.mem_append_left _ (List.mem_append_left _ (List.mem_append_left _ (List.mem_append_left _ (List.mem_append_left _ (List.mem_append_left _ (List.mem_of_getElem? (i := 0) rfl)))))))))))
  have htab := vx_table (x := yL_begin) B (hts (.codeWith yL_begin cL_begin 4 (some .int) [(0, 6, 9, 13)]) List.mem_cons_self)
  have hl := lv_entry ([.ref (ad o), .int k2, .int w2]) (n := 4) (Nat.le_of_ble_eq_true rfl)
  rw [lg_entry_eq]
  generalize (lg_sl ([.ref (ad o), .int k2, .int w2]) ++ List.replicate (4 - (lg_sl ([.ref (ad o), .int k2, .int w2])).length) Slot.unset).toArray = ls at hl ⊢
  have hl : lv_has ls 4 [(0, .ref (ad o)), (1, .int k2), (2, .int w2)] := hl
  refine lv_aload_n hx hb dL_begin_0 rfl (lv_at hl 0 rfl) ?_
  refine lv_iload_n hx hb dL_begin_1 rfl (lv_at hl 1 rfl) ?_
  refine lv_iload_n hx hb dL_begin_2 rfl (lv_at hl 2 rfl) ?_
  have hP9 := hP
  have hD9 := hD
  rw [← List.append_nil (wRR G ad o sg)] at hP9 hD9
  refine noV [] (wRR G ad o sg) [] (wRR G ad o sg) (As := [.int k2, .int w2]) (rest := []) CF (kn_X6_begin l hl0 G ad o sg k2 w2 hk) (cwV 2 hts gL_begin_X6_begin rfl rfl rfl (by decide +kernel) ⟨Nat.le_of_ble_eq_true rfl, Nat.le_of_ble_eq_true rfl⟩) hP9 hD9 hS hA hY hZ rfl rfl (fst_RR _ _ _ _ _) rfl hl.1 rfl (lv_room (Nat.le_of_ble_eq_true rfl)) dL_begin_3 ⟨Nat.le_of_ble_eq_true rfl, Nat.le_of_ble_eq_true rfl⟩ (fun ce q9 H locs hP hD hS hce hcv hcl => ?_)
  rw [List.append_nil] at hP hD
  have hP : va_P G.1 vwCl (wRR G ad o sg) H := hP
  have hD : va_D A (wRR G ad o sg) := hD
  refine vx_catch (own := RL) (name := "java/lang/IllegalArgumentException") hown [] ⟨0, 6, 9, 13⟩ [] htab (fun z hz => nomatch hz) rfl (by decide) kx0 (va_Nw.use rfl (hY.2.1 (.castable "java/lang/IllegalArgumentException" "java/lang/IllegalArgumentException") (List.mem_of_getElem? (i := 39) rfl))) hce hcv hcl ?_
  refine lv_astore_n (lv' := [(3, .ref q9), (0, .ref (ad o)), (1, .int k2), (2, .int w2)]) hx hb dL_begin_9 rfl hl (by decide) rfl (fun ls hl => ?_)
  refine lv_iconst (v := 1) hx hb dL_begin_10 (by decide) ?_
  exact ca_iret hx hb hr hlk hS hP (by first | with_reducible rfl | (simp only [sld_eq, ↓reduceIte]; done)) (by first | with_reducible rfl | (simp only [sld_eq, ↓reduceIte]; done)) dL_begin_11

set_option maxHeartbeats 4000000 in
set_option maxRecDepth 100000 in
theorem k_L_offer (l : Launch) (G : GT) (ad : Nat → Nat) (o : Nat) (sg : RRT) (st ia wa gr fa sa : Int32) (ou : Nat) (fo : Nat → Int64) (h0 : okA st 0 1) (h1 : okA ia 0 1000000) (h2 : okA wa 1 1000000) (h3 : okA gr 0 3) (h4 : okA fa 0 2147483647) (h5 : okA sa 0 2147483647) (hs : ¬ 300 ≤ (rrStr sg st).2.2.1) : Ca l yL_offer wsL_offer { frames := 8, cells := 1, slots := 6, locals := 149 } G ([(ou, .inl (G.2.2.2, 1, .inr (.inl fo)))] ++ (wRR G ad o sg)) ([(ou, .inl (G.2.2.2, 1, .inr (.inl (vp_updL fo (0 : Int32).toNatClampNeg ((strTake (rrStr sg st) ia wa gr fa sa).2.2.1).toInt64))))] ++ (wRR G ad o (rrSet sg st (strTake (rrStr sg st) ia wa gr fa sa)))) [.ref (ad o), .int st, .int ia, .int wa, .int gr, .int fa, .int sa, .ref ou] (some (.int 0)) := by
  intro sz
  refine met_ofWH (cc := cL_offer) (maxL := 9) (ret := (some .int)) (hh := [(0, 18, 21, 13), (0, 18, 25, 19)]) (by decide) rfl ?_
  intro p e s m args below meth c s₁ B hml hv
  obtain ⟨rfl, hsz, hP, hY, hD0, hZ0⟩ := hv
  subst hsz
  have hD := hD0.self (sz := s.heap.size)
  generalize hAe : va_A ([(ou, .inl (G.2.2.2, 1, .inr (.inl fo)))] ++ (wRR G ad o sg)) s.heap.size = A at hD hZ0 ⊢
  have hZ : Zs A s s.heap := hZ0
  have hA : ∀ q : Nat, s.heap.size ≤ q → A q := fun q h => by rw [← hAe]; exact Or.inr h
  have hS : va_S A s.heap s.heap [] := va_S.rf
  have hx := B.exec
  have hb := B.bytes
  have hr := B.returns
  have hts := atoms_spec (ws := wsL_offer) B.pre
  have hown : s.vm.findClass RL = some m.cls := findClass_of_methodNamed B.named
  have hlk := B.notSynchronized
  have CF : CallFix p m c cL_offer 9 s _ wsL_offer RL := ⟨hx, hb, hml, hown, hts⟩
  have hl := lv_entry ([.ref (ad o), .int st, .int ia, .int wa, .int gr, .int fa, .int sa, .ref ou]) (n := 9) (Nat.le_of_ble_eq_true rfl)
  rw [lg_entry_eq]
  generalize (lg_sl ([.ref (ad o), .int st, .int ia, .int wa, .int gr, .int fa, .int sa, .ref ou]) ++ List.replicate (9 - (lg_sl ([.ref (ad o), .int st, .int ia, .int wa, .int gr, .int fa, .int sa, .ref ou])).length) Slot.unset).toArray = ls at hl ⊢
  have hl : lv_has ls 9 [(0, .ref (ad o)), (1, .int st), (2, .int ia), (3, .int wa), (4, .int gr), (5, .int fa), (6, .int sa), (7, .ref ou)] := hl
  refine lv_aload hx hb dL_offer_0 (lv_at hl 7 rfl) ?_
  refine lv_iconst (v := 0) hx hb dL_offer_2 (by decide) ?_
  refine lv_aload_n hx hb dL_offer_3 rfl (lv_at hl 0 rfl) ?_
  refine lv_iload_n hx hb dL_offer_4 rfl (lv_at hl 1 rfl) ?_
  refine lv_iload_n hx hb dL_offer_5 rfl (lv_at hl 2 rfl) ?_
  refine lv_iload_n hx hb dL_offer_6 rfl (lv_at hl 3 rfl) ?_
  refine lv_iload hx hb dL_offer_7 (lv_at hl 4 rfl) ?_
  refine lv_iload hx hb dL_offer_9 (lv_at hl 5 rfl) ?_
  refine lv_iload hx hb dL_offer_11 (lv_at hl 6 rfl) ?_
  have hP9 := hP
  have hD9 := hD
  rw [← List.append_nil (wRR G ad o sg)] at hP9 hD9
  refine wrV [(ou, .inl (G.2.2.2, 1, .inr (.inl fo)))] (wRR G ad o sg) [] (wRR G ad o (rrSet sg st (strTake (rrStr sg st) ia wa gr fa sa))) (As := [.int st, .int ia, .int wa, .int gr, .int fa, .int sa]) (rest := [.int 0, .ref ou]) CF (k_X6_offer l G ad o sg st ia wa gr fa sa h0 h1 h2 h3 h4 h5 hs) (cwV 6 hts gL_offer_X6_offer rfl rfl rfl (by decide +kernel) ⟨Nat.le_of_ble_eq_true rfl, Nat.le_of_ble_eq_true rfl⟩) hP9 hD9 hS hA hY rfl rfl (fst_RR _ _ _ _ _) rfl hl.1 rfl (lv_room (Nat.le_of_ble_eq_true rfl)) dL_offer_13 ⟨Nat.zero_le _, Nat.zero_le _⟩ (fun H locs hP hD hS => ?_)
  rw [List.append_nil] at hP hD
  have hP : va_P G.1 vwCl ([(ou, .inl (G.2.2.2, 1, .inr (.inl fo)))] ++ (wRR G ad o (rrSet sg st (strTake (rrStr sg st) ia wa gr fa sa)))) H := hP
  have hD : va_D A ([(ou, .inl (G.2.2.2, 1, .inr (.inl fo)))] ++ (wRR G ad o (rrSet sg st (strTake (rrStr sg st) ia wa gr fa sa)))) := hD
  refine lv_i2l hx hb dL_offer_16 rfl ?_
  refine va_last hx hb hY.1 hP hD hS 0 2 rfl rfl vp_0_1 dL_offer_17 (fun H locs hP hD hS => ?_)
  have hP : va_P G.1 vwCl ([(ou, .inl (G.2.2.2, 1, .inr (.inl (vp_updL fo (0 : Int32).toNatClampNeg (((strTake (rrStr sg st) ia wa gr fa sa).2.2.1).toInt64)))))] ++ (wRR G ad o (rrSet sg st (strTake (rrStr sg st) ia wa gr fa sa)))) H := hP
  have hD : va_D A ([(ou, .inl (G.2.2.2, 1, .inr (.inl (vp_updL fo (0 : Int32).toNatClampNeg (((strTake (rrStr sg st) ia wa gr fa sa).2.2.1).toInt64)))))] ++ (wRR G ad o (rrSet sg st (strTake (rrStr sg st) ia wa gr fa sa)))) := hD
  refine lv_goto (tgt := 29) hx hb dL_offer_18 (by decide) ?_
  refine lv_iconst (v := 0) hx hb dL_offer_29 (by decide) ?_
  refine W.widen (k := 1) (n := 6) (Nat.zero_le _) (Nat.zero_le _) ?_
  exact ca_iret hx hb hr hlk hS hP (by first | with_reducible rfl | (simp only [sld_eq, ↓reduceIte]; done)) (by first | with_reducible rfl | (simp only [sld_eq, ↓reduceIte]; done)) dL_offer_30

set_option maxHeartbeats 4000000 in
set_option maxRecDepth 100000 in
theorem k1_L_offer (l : Launch) (hl0 : l.stackTraces = false) (G : GT) (ad : Nat → Nat) (o : Nat) (sg : RRT) (st ia wa gr fa sa : Int32) (ou : Nat) (fo : Nat → Int64) (hk : ¬ (okA st 0 1 ∧ okA ia 0 1000000 ∧ okA wa 1 1000000 ∧ okA gr 0 3 ∧ okA fa 0 2147483647 ∧ okA sa 0 2147483647)) : Ca l yL_offer wsL_offer { frames := 8, cells := 1, slots := 6, locals := 149 } G ([(ou, .inl (G.2.2.2, 1, .inr (.inl fo)))] ++ (wRR G ad o sg)) ([(ou, .inl (G.2.2.2, 1, .inr (.inl fo)))] ++ (wRR G ad o sg)) [.ref (ad o), .int st, .int ia, .int wa, .int gr, .int fa, .int sa, .ref ou] (some (.int 1)) := by
  intro sz
  refine met_ofWH (cc := cL_offer) (maxL := 9) (ret := (some .int)) (hh := [(0, 18, 21, 13), (0, 18, 25, 19)]) (by decide) rfl ?_
  intro p e s m args below meth c s₁ B hml hv
  obtain ⟨rfl, hsz, hP, hY, hD0, hZ0⟩ := hv
  subst hsz
  have hD := hD0.self (sz := s.heap.size)
  generalize hAe : va_A ([(ou, .inl (G.2.2.2, 1, .inr (.inl fo)))] ++ (wRR G ad o sg)) s.heap.size = A at hD hZ0 ⊢
  have hZ : Zs A s s.heap := hZ0
  have hA : ∀ q : Nat, s.heap.size ≤ q → A q := fun q h => by rw [← hAe]; exact Or.inr h
  have hS : va_S A s.heap s.heap [] := va_S.rf
  have hx := B.exec
  have hb := B.bytes
  have hr := B.returns
  have hts := atoms_spec (ws := wsL_offer) B.pre
  have hown : s.vm.findClass RL = some m.cls := findClass_of_methodNamed B.named
  have hlk := B.notSynchronized
  have CF : CallFix p m c cL_offer 9 s _ wsL_offer RL := ⟨hx, hb, hml, hown, hts⟩
  have kx0 := hts (.classLink RL 13 "java/lang/IllegalArgumentException") (List.mem_cons_of_mem _ (List.mem_append_left _ (List.mem_append_left _ (List.mem_append_left _ (List.mem_append_left _ (List.mem_append_left _ (List.mem_append_left _ (List.mem_append_left _ (List.mem_append_left _ (List.mem_append_left _ (List.mem_append_left _ (List.mem_of_getElem? (i := 0) rfl))))))))))))
  have htab := vx_table (x := yL_offer) B (hts (.codeWith yL_offer cL_offer 9 (some .int) [(0, 18, 21, 13), (0, 18, 25, 19)]) List.mem_cons_self)
  have hl := lv_entry ([.ref (ad o), .int st, .int ia, .int wa, .int gr, .int fa, .int sa, .ref ou]) (n := 9) (Nat.le_of_ble_eq_true rfl)
  rw [lg_entry_eq]
  generalize (lg_sl ([.ref (ad o), .int st, .int ia, .int wa, .int gr, .int fa, .int sa, .ref ou]) ++ List.replicate (9 - (lg_sl ([.ref (ad o), .int st, .int ia, .int wa, .int gr, .int fa, .int sa, .ref ou])).length) Slot.unset).toArray = ls at hl ⊢
  have hl : lv_has ls 9 [(0, .ref (ad o)), (1, .int st), (2, .int ia), (3, .int wa), (4, .int gr), (5, .int fa), (6, .int sa), (7, .ref ou)] := hl
  refine lv_aload hx hb dL_offer_0 (lv_at hl 7 rfl) ?_
  refine lv_iconst (v := 0) hx hb dL_offer_2 (by decide) ?_
  refine lv_aload_n hx hb dL_offer_3 rfl (lv_at hl 0 rfl) ?_
  refine lv_iload_n hx hb dL_offer_4 rfl (lv_at hl 1 rfl) ?_
  refine lv_iload_n hx hb dL_offer_5 rfl (lv_at hl 2 rfl) ?_
  refine lv_iload_n hx hb dL_offer_6 rfl (lv_at hl 3 rfl) ?_
  refine lv_iload hx hb dL_offer_7 (lv_at hl 4 rfl) ?_
  refine lv_iload hx hb dL_offer_9 (lv_at hl 5 rfl) ?_
  refine lv_iload hx hb dL_offer_11 (lv_at hl 6 rfl) ?_
  have hP9 := hP
  have hD9 := hD
  rw [← List.append_nil (wRR G ad o sg)] at hP9 hD9
  refine noV [(ou, .inl (G.2.2.2, 1, .inr (.inl fo)))] (wRR G ad o sg) [] (wRR G ad o sg) (As := [.int st, .int ia, .int wa, .int gr, .int fa, .int sa]) (rest := [.int 0, .ref ou]) CF (kn_X6_offer l hl0 G ad o sg st ia wa gr fa sa hk) (cwV 6 hts gL_offer_X6_offer rfl rfl rfl (by decide +kernel) ⟨Nat.le_of_ble_eq_true rfl, Nat.le_of_ble_eq_true rfl⟩) hP9 hD9 hS hA hY hZ rfl rfl (fst_RR _ _ _ _ _) rfl hl.1 rfl (lv_room (Nat.le_of_ble_eq_true rfl)) dL_offer_13 ⟨Nat.le_of_ble_eq_true rfl, Nat.le_of_ble_eq_true rfl⟩ (fun ce q9 H locs hP hD hS hce hcv hcl => ?_)
  rw [List.append_nil] at hP hD
  have hP : va_P G.1 vwCl ([(ou, .inl (G.2.2.2, 1, .inr (.inl fo)))] ++ (wRR G ad o sg)) H := hP
  have hD : va_D A ([(ou, .inl (G.2.2.2, 1, .inr (.inl fo)))] ++ (wRR G ad o sg)) := hD
  refine vx_catch (own := RL) (name := "java/lang/IllegalArgumentException") hown [] ⟨0, 18, 21, 13⟩ [⟨0, 18, 25, 19⟩] htab (fun z hz => nomatch hz) rfl (by decide) kx0 (va_Nw.use rfl (hY.2.1 (.castable "java/lang/IllegalArgumentException" "java/lang/IllegalArgumentException") (List.mem_of_getElem? (i := 39) rfl))) hce hcv hcl ?_
  refine lv_astore (lv' := [(8, .ref q9), (0, .ref (ad o)), (1, .int st), (2, .int ia), (3, .int wa), (4, .int gr), (5, .int fa), (6, .int sa), (7, .ref ou)]) hx hb dL_offer_21 hl (by decide) rfl (fun ls hl => ?_)
  refine lv_iconst (v := 1) hx hb dL_offer_23 (by decide) ?_
  exact ca_iret hx hb hr hlk hS hP (by first | with_reducible rfl | (simp only [sld_eq, ↓reduceIte]; done)) (by first | with_reducible rfl | (simp only [sld_eq, ↓reduceIte]; done)) dL_offer_24

set_option maxHeartbeats 4000000 in
set_option maxRecDepth 100000 in
theorem k2_L_offer (l : Launch) (hl0 : l.stackTraces = false) (G : GT) (ad : Nat → Nat) (o : Nat) (sg : RRT) (st ia wa gr fa sa : Int32) (ou : Nat) (fo : Nat → Int64) (h0 : okA st 0 1) (h1 : okA ia 0 1000000) (h2 : okA wa 1 1000000) (h3 : okA gr 0 3) (h4 : okA fa 0 2147483647) (h5 : okA sa 0 2147483647) (hs : 300 ≤ (rrStr sg st).2.2.1) : Ca l yL_offer wsL_offer { frames := 8, cells := 1, slots := 6, locals := 149 } G ([(ou, .inl (G.2.2.2, 1, .inr (.inl fo)))] ++ (wRR G ad o sg)) ([(ou, .inl (G.2.2.2, 1, .inr (.inl fo)))] ++ (wRR G ad o sg)) [.ref (ad o), .int st, .int ia, .int wa, .int gr, .int fa, .int sa, .ref ou] (some (.int 2)) := by
  intro sz
  refine met_ofWH (cc := cL_offer) (maxL := 9) (ret := (some .int)) (hh := [(0, 18, 21, 13), (0, 18, 25, 19)]) (by decide) rfl ?_
  intro p e s m args below meth c s₁ B hml hv
  obtain ⟨rfl, hsz, hP, hY, hD0, hZ0⟩ := hv
  subst hsz
  have hD := hD0.self (sz := s.heap.size)
  generalize hAe : va_A ([(ou, .inl (G.2.2.2, 1, .inr (.inl fo)))] ++ (wRR G ad o sg)) s.heap.size = A at hD hZ0 ⊢
  have hZ : Zs A s s.heap := hZ0
  have hA : ∀ q : Nat, s.heap.size ≤ q → A q := fun q h => by rw [← hAe]; exact Or.inr h
  have hS : va_S A s.heap s.heap [] := va_S.rf
  have hx := B.exec
  have hb := B.bytes
  have hr := B.returns
  have hts := atoms_spec (ws := wsL_offer) B.pre
  have hown : s.vm.findClass RL = some m.cls := findClass_of_methodNamed B.named
  have hlk := B.notSynchronized
  have CF : CallFix p m c cL_offer 9 s _ wsL_offer RL := ⟨hx, hb, hml, hown, hts⟩
  have kx1 := hts (.classLink RL 19 "java/lang/IllegalStateException") (List.mem_cons_of_mem _ (List.mem_append_left _ (List.mem_append_left _ (List.mem_append_left _ (List.mem_append_left _ (List.mem_append_left _ (List.mem_append_left _ (List.mem_append_left _ (List.mem_append_left _ (List.mem_append_left _ (List.mem_append_left _ (List.mem_of_getElem? (i := 1) rfl))))))))))))
  have kx0 := hts (.classLink RL 13 "java/lang/IllegalArgumentException") (List.mem_cons_of_mem _ (List.mem_append_left _ (List.mem_append_left _ (List.mem_append_left _ (List.mem_append_left _ (List.mem_append_left _ (List.mem_append_left _ (List.mem_append_left _ (List.mem_append_left _ (List.mem_append_left _ (List.mem_append_left _ (List.mem_of_getElem? (i := 0) rfl))))))))))))
  have htab := vx_table (x := yL_offer) B (hts (.codeWith yL_offer cL_offer 9 (some .int) [(0, 18, 21, 13), (0, 18, 25, 19)]) List.mem_cons_self)
  have hl := lv_entry ([.ref (ad o), .int st, .int ia, .int wa, .int gr, .int fa, .int sa, .ref ou]) (n := 9) (Nat.le_of_ble_eq_true rfl)
  rw [lg_entry_eq]
  generalize (lg_sl ([.ref (ad o), .int st, .int ia, .int wa, .int gr, .int fa, .int sa, .ref ou]) ++ List.replicate (9 - (lg_sl ([.ref (ad o), .int st, .int ia, .int wa, .int gr, .int fa, .int sa, .ref ou])).length) Slot.unset).toArray = ls at hl ⊢
  have hl : lv_has ls 9 [(0, .ref (ad o)), (1, .int st), (2, .int ia), (3, .int wa), (4, .int gr), (5, .int fa), (6, .int sa), (7, .ref ou)] := hl
  refine lv_aload hx hb dL_offer_0 (lv_at hl 7 rfl) ?_
  refine lv_iconst (v := 0) hx hb dL_offer_2 (by decide) ?_
  refine lv_aload_n hx hb dL_offer_3 rfl (lv_at hl 0 rfl) ?_
  refine lv_iload_n hx hb dL_offer_4 rfl (lv_at hl 1 rfl) ?_
  refine lv_iload_n hx hb dL_offer_5 rfl (lv_at hl 2 rfl) ?_
  refine lv_iload_n hx hb dL_offer_6 rfl (lv_at hl 3 rfl) ?_
  refine lv_iload hx hb dL_offer_7 (lv_at hl 4 rfl) ?_
  refine lv_iload hx hb dL_offer_9 (lv_at hl 5 rfl) ?_
  refine lv_iload hx hb dL_offer_11 (lv_at hl 6 rfl) ?_
  have hP9 := hP
  have hD9 := hD
  rw [← List.append_nil (wRR G ad o sg)] at hP9 hD9
  refine noV [(ou, .inl (G.2.2.2, 1, .inr (.inl fo)))] (wRR G ad o sg) [] (wRR G ad o sg) (As := [.int st, .int ia, .int wa, .int gr, .int fa, .int sa]) (rest := [.int 0, .ref ou]) CF (kn2_X6_offer l hl0 G ad o sg st ia wa gr fa sa h0 h1 h2 h3 h4 h5 hs) (cwV 6 hts gL_offer_X6_offer rfl rfl rfl (by decide +kernel) ⟨Nat.le_of_ble_eq_true rfl, Nat.le_of_ble_eq_true rfl⟩) hP9 hD9 hS hA hY hZ rfl rfl (fst_RR _ _ _ _ _) rfl hl.1 rfl (lv_room (Nat.le_of_ble_eq_true rfl)) dL_offer_13 ⟨Nat.le_of_ble_eq_true rfl, Nat.le_of_ble_eq_true rfl⟩ (fun ce q9 H locs hP hD hS hce hcv hcl => ?_)
  rw [List.append_nil] at hP hD
  have hP : va_P G.1 vwCl ([(ou, .inl (G.2.2.2, 1, .inr (.inl fo)))] ++ (wRR G ad o sg)) H := hP
  have hD : va_D A ([(ou, .inl (G.2.2.2, 1, .inr (.inl fo)))] ++ (wRR G ad o sg)) := hD
  refine vx_catch (own := RL) (name := "java/lang/IllegalStateException") hown [⟨0, 18, 21, 13⟩] ⟨0, 18, 25, 19⟩ [] htab (fun z hz => by rcases List.mem_singleton.mp hz with rfl; exact Or.inr ⟨by decide, _, kx0, hY.2.2.1 ("java/lang/IllegalStateException", "java/lang/IllegalArgumentException") (List.mem_of_getElem? (i := 0) rfl)⟩) rfl (by decide) kx1 (va_Nw.use rfl (hY.2.1 (.castable "java/lang/IllegalStateException" "java/lang/IllegalStateException") (List.mem_of_getElem? (i := 40) rfl))) hce hcv hcl ?_
  refine lv_astore (lv' := [(8, .ref q9), (0, .ref (ad o)), (1, .int st), (2, .int ia), (3, .int wa), (4, .int gr), (5, .int fa), (6, .int sa), (7, .ref ou)]) hx hb dL_offer_25 hl (by decide) rfl (fun ls hl => ?_)
  refine lv_iconst (v := 2) hx hb dL_offer_27 (by decide) ?_
  exact ca_iret hx hb hr hlk hS hP (by first | with_reducible rfl | (simp only [sld_eq, ↓reduceIte]; done)) (by first | with_reducible rfl | (simp only [sld_eq, ↓reduceIte]; done)) dL_offer_28

set_option maxHeartbeats 4000000 in
set_option maxRecDepth 100000 in
theorem k_L_clear (l : Launch) (G : GT) (ad : Nat → Nat) (o : Nat) (sg : RRT) (st : Int32) (ou : Nat) (fo : Nat → Int64) (h0 : okA st 0 1) : Ca l yL_clear wsL_clear { frames := 8, cells := 1, slots := 6, locals := 145 } G ([(ou, .inl (G.2.2.2, 1, .inr (.inl fo)))] ++ (wRR G ad o sg)) ([(ou, .inl (G.2.2.2, 1, .inr (.inl (vp_updL fo (0 : Int32).toNatClampNeg ((rrStr sg st).2.2.1).toInt64))))] ++ (wRR G ad o (rrSet sg st (strEmpty (rrStr sg st))))) [.ref (ad o), .int st, .ref ou] (some (.int 0)) := by
  intro sz
  refine met_ofWH (cc := cL_clear) (maxL := 4) (ret := (some .int)) (hh := [(0, 9, 12, 13)]) (by decide) rfl ?_
  intro p e s m args below meth c s₁ B hml hv
  obtain ⟨rfl, hsz, hP, hY, hD0, hZ0⟩ := hv
  subst hsz
  have hD := hD0.self (sz := s.heap.size)
  generalize hAe : va_A ([(ou, .inl (G.2.2.2, 1, .inr (.inl fo)))] ++ (wRR G ad o sg)) s.heap.size = A at hD hZ0 ⊢
  have hZ : Zs A s s.heap := hZ0
  have hA : ∀ q : Nat, s.heap.size ≤ q → A q := fun q h => by rw [← hAe]; exact Or.inr h
  have hS : va_S A s.heap s.heap [] := va_S.rf
  have hx := B.exec
  have hb := B.bytes
  have hr := B.returns
  have hts := atoms_spec (ws := wsL_clear) B.pre
  have hown : s.vm.findClass RL = some m.cls := findClass_of_methodNamed B.named
  have hlk := B.notSynchronized
  have CF : CallFix p m c cL_clear 4 s _ wsL_clear RL := ⟨hx, hb, hml, hown, hts⟩
  have hl := lv_entry ([.ref (ad o), .int st, .ref ou]) (n := 4) (Nat.le_of_ble_eq_true rfl)
  rw [lg_entry_eq]
  generalize (lg_sl ([.ref (ad o), .int st, .ref ou]) ++ List.replicate (4 - (lg_sl ([.ref (ad o), .int st, .ref ou])).length) Slot.unset).toArray = ls at hl ⊢
  have hl : lv_has ls 4 [(0, .ref (ad o)), (1, .int st), (2, .ref ou)] := hl
  refine lv_aload_n hx hb dL_clear_0 rfl (lv_at hl 2 rfl) ?_
  refine lv_iconst (v := 0) hx hb dL_clear_1 (by decide) ?_
  refine lv_aload_n hx hb dL_clear_2 rfl (lv_at hl 0 rfl) ?_
  refine lv_iload_n hx hb dL_clear_3 rfl (lv_at hl 1 rfl) ?_
  have hP9 := hP
  have hD9 := hD
  rw [← List.append_nil (wRR G ad o sg)] at hP9 hD9
  refine wrV [(ou, .inl (G.2.2.2, 1, .inr (.inl fo)))] (wRR G ad o sg) [] (wRR G ad o (rrSet sg st (strEmpty (rrStr sg st)))) (As := [.int st]) (rest := [.int 0, .ref ou]) CF (k_X6_clear l G ad o sg st h0) (cwV 1 hts gL_clear_X6_clear rfl rfl rfl (by decide +kernel) ⟨Nat.le_of_ble_eq_true rfl, Nat.le_of_ble_eq_true rfl⟩) hP9 hD9 hS hA hY rfl rfl (fst_RR _ _ _ _ _) rfl hl.1 rfl (lv_room (Nat.le_of_ble_eq_true rfl)) dL_clear_4 ⟨Nat.zero_le _, Nat.zero_le _⟩ (fun H locs hP hD hS => ?_)
  rw [List.append_nil] at hP hD
  have hP : va_P G.1 vwCl ([(ou, .inl (G.2.2.2, 1, .inr (.inl fo)))] ++ (wRR G ad o (rrSet sg st (strEmpty (rrStr sg st))))) H := hP
  have hD : va_D A ([(ou, .inl (G.2.2.2, 1, .inr (.inl fo)))] ++ (wRR G ad o (rrSet sg st (strEmpty (rrStr sg st))))) := hD
  refine lv_i2l hx hb dL_clear_7 rfl ?_
  refine va_last hx hb hY.1 hP hD hS 0 2 rfl rfl vp_0_1 dL_clear_8 (fun H locs hP hD hS => ?_)
  have hP : va_P G.1 vwCl ([(ou, .inl (G.2.2.2, 1, .inr (.inl (vp_updL fo (0 : Int32).toNatClampNeg (((rrStr sg st).2.2.1).toInt64)))))] ++ (wRR G ad o (rrSet sg st (strEmpty (rrStr sg st))))) H := hP
  have hD : va_D A ([(ou, .inl (G.2.2.2, 1, .inr (.inl (vp_updL fo (0 : Int32).toNatClampNeg (((rrStr sg st).2.2.1).toInt64)))))] ++ (wRR G ad o (rrSet sg st (strEmpty (rrStr sg st))))) := hD
  refine lv_goto (tgt := 15) hx hb dL_clear_9 (by decide) ?_
  refine lv_iconst (v := 0) hx hb dL_clear_15 (by decide) ?_
  refine W.widen (k := 1) (n := 6) (Nat.zero_le _) (Nat.zero_le _) ?_
  exact ca_iret hx hb hr hlk hS hP (by first | with_reducible rfl | (simp only [sld_eq, ↓reduceIte]; done)) (by first | with_reducible rfl | (simp only [sld_eq, ↓reduceIte]; done)) dL_clear_16

set_option maxHeartbeats 4000000 in
set_option maxRecDepth 100000 in
theorem k1_L_clear (l : Launch) (hl0 : l.stackTraces = false) (G : GT) (ad : Nat → Nat) (o : Nat) (sg : RRT) (st : Int32) (ou : Nat) (fo : Nat → Int64) (hk : ¬ (okA st 0 1)) : Ca l yL_clear wsL_clear { frames := 8, cells := 1, slots := 6, locals := 145 } G ([(ou, .inl (G.2.2.2, 1, .inr (.inl fo)))] ++ (wRR G ad o sg)) ([(ou, .inl (G.2.2.2, 1, .inr (.inl fo)))] ++ (wRR G ad o sg)) [.ref (ad o), .int st, .ref ou] (some (.int 1)) := by
  intro sz
  refine met_ofWH (cc := cL_clear) (maxL := 4) (ret := (some .int)) (hh := [(0, 9, 12, 13)]) (by decide) rfl ?_
  intro p e s m args below meth c s₁ B hml hv
  obtain ⟨rfl, hsz, hP, hY, hD0, hZ0⟩ := hv
  subst hsz
  have hD := hD0.self (sz := s.heap.size)
  generalize hAe : va_A ([(ou, .inl (G.2.2.2, 1, .inr (.inl fo)))] ++ (wRR G ad o sg)) s.heap.size = A at hD hZ0 ⊢
  have hZ : Zs A s s.heap := hZ0
  have hA : ∀ q : Nat, s.heap.size ≤ q → A q := fun q h => by rw [← hAe]; exact Or.inr h
  have hS : va_S A s.heap s.heap [] := va_S.rf
  have hx := B.exec
  have hb := B.bytes
  have hr := B.returns
  have hts := atoms_spec (ws := wsL_clear) B.pre
  have hown : s.vm.findClass RL = some m.cls := findClass_of_methodNamed B.named
  have hlk := B.notSynchronized
  have CF : CallFix p m c cL_clear 4 s _ wsL_clear RL := ⟨hx, hb, hml, hown, hts⟩
  have kx0 := hts (.classLink RL 13 "java/lang/IllegalArgumentException") (List.mem_cons_of_mem _ (List.mem_append_left _ (List.mem_append_left _ (List.mem_append_left _ (List.mem_append_left _ (List.mem_append_left _ (List.mem_append_left _ (List.mem_append_left _ (List.mem_append_left _ (List.mem_append_left _ (List.mem_of_getElem? (i := 0) rfl)))))))))))
  have htab := vx_table (x := yL_clear) B (hts (.codeWith yL_clear cL_clear 4 (some .int) [(0, 9, 12, 13)]) List.mem_cons_self)
  have hl := lv_entry ([.ref (ad o), .int st, .ref ou]) (n := 4) (Nat.le_of_ble_eq_true rfl)
  rw [lg_entry_eq]
  generalize (lg_sl ([.ref (ad o), .int st, .ref ou]) ++ List.replicate (4 - (lg_sl ([.ref (ad o), .int st, .ref ou])).length) Slot.unset).toArray = ls at hl ⊢
  have hl : lv_has ls 4 [(0, .ref (ad o)), (1, .int st), (2, .ref ou)] := hl
  refine lv_aload_n hx hb dL_clear_0 rfl (lv_at hl 2 rfl) ?_
  refine lv_iconst (v := 0) hx hb dL_clear_1 (by decide) ?_
  refine lv_aload_n hx hb dL_clear_2 rfl (lv_at hl 0 rfl) ?_
  refine lv_iload_n hx hb dL_clear_3 rfl (lv_at hl 1 rfl) ?_
  have hP9 := hP
  have hD9 := hD
  rw [← List.append_nil (wRR G ad o sg)] at hP9 hD9
  refine noV [(ou, .inl (G.2.2.2, 1, .inr (.inl fo)))] (wRR G ad o sg) [] (wRR G ad o sg) (As := [.int st]) (rest := [.int 0, .ref ou]) CF (kn_X6_clear l hl0 G ad o sg st hk) (cwV 1 hts gL_clear_X6_clear rfl rfl rfl (by decide +kernel) ⟨Nat.le_of_ble_eq_true rfl, Nat.le_of_ble_eq_true rfl⟩) hP9 hD9 hS hA hY hZ rfl rfl (fst_RR _ _ _ _ _) rfl hl.1 rfl (lv_room (Nat.le_of_ble_eq_true rfl)) dL_clear_4 ⟨Nat.le_of_ble_eq_true rfl, Nat.le_of_ble_eq_true rfl⟩ (fun ce q9 H locs hP hD hS hce hcv hcl => ?_)
  rw [List.append_nil] at hP hD
  have hP : va_P G.1 vwCl ([(ou, .inl (G.2.2.2, 1, .inr (.inl fo)))] ++ (wRR G ad o sg)) H := hP
  have hD : va_D A ([(ou, .inl (G.2.2.2, 1, .inr (.inl fo)))] ++ (wRR G ad o sg)) := hD
  refine vx_catch (own := RL) (name := "java/lang/IllegalArgumentException") hown [] ⟨0, 9, 12, 13⟩ [] htab (fun z hz => nomatch hz) rfl (by decide) kx0 (va_Nw.use rfl (hY.2.1 (.castable "java/lang/IllegalArgumentException" "java/lang/IllegalArgumentException") (List.mem_of_getElem? (i := 39) rfl))) hce hcv hcl ?_
  refine lv_astore_n (lv' := [(3, .ref q9), (0, .ref (ad o)), (1, .int st), (2, .ref ou)]) hx hb dL_clear_12 rfl hl (by decide) rfl (fun ls hl => ?_)
  refine lv_iconst (v := 1) hx hb dL_clear_13 (by decide) ?_
  exact ca_iret hx hb hr hlk hS hP (by first | with_reducible rfl | (simp only [sld_eq, ↓reduceIte]; done)) (by first | with_reducible rfl | (simp only [sld_eq, ↓reduceIte]; done)) dL_clear_14

set_option maxHeartbeats 4000000 in
set_option maxRecDepth 100000 in
theorem k_L_offers (l : Launch) (G : GT) (ad : Nat → Nat) (o : Nat) (sg : RRT) (st : Int32) (ou : Nat) (fo : Nat → Int64) (h0 : okA st 0 2) : Ca l yL_offers wsL_offers { frames := 8, cells := 1, slots := 6, locals := 143 } G ([(ou, .inl (G.2.2.2, 1, .inr (.inl fo)))] ++ (wRR G ad o sg)) ([(ou, .inl (G.2.2.2, 1, .inr (.inl (vp_updL fo (0 : Int32).toNatClampNeg ((if st = 2 then sg.2.1.2.2.1 + sg.2.2.1.2.2.1 else (rrStr sg st).2.2.1)).toInt64))))] ++ (wRR G ad o sg)) [.ref (ad o), .int st, .ref ou] (some (.int 0)) := by
  intro sz
  refine met_ofWH (cc := cL_offers) (maxL := 4) (ret := (some .int)) (hh := [(0, 9, 12, 13)]) (by decide) rfl ?_
  intro p e s m args below meth c s₁ B hml hv
  obtain ⟨rfl, hsz, hP, hY, hD0, hZ0⟩ := hv
  subst hsz
  have hD := hD0.self (sz := s.heap.size)
  generalize hAe : va_A ([(ou, .inl (G.2.2.2, 1, .inr (.inl fo)))] ++ (wRR G ad o sg)) s.heap.size = A at hD hZ0 ⊢
  have hZ : Zs A s s.heap := hZ0
  have hA : ∀ q : Nat, s.heap.size ≤ q → A q := fun q h => by rw [← hAe]; exact Or.inr h
  have hS : va_S A s.heap s.heap [] := va_S.rf
  have hx := B.exec
  have hb := B.bytes
  have hr := B.returns
  have hts := atoms_spec (ws := wsL_offers) B.pre
  have hown : s.vm.findClass RL = some m.cls := findClass_of_methodNamed B.named
  have hlk := B.notSynchronized
  have CF : CallFix p m c cL_offers 4 s _ wsL_offers RL := ⟨hx, hb, hml, hown, hts⟩
  have hl := lv_entry ([.ref (ad o), .int st, .ref ou]) (n := 4) (Nat.le_of_ble_eq_true rfl)
  rw [lg_entry_eq]
  generalize (lg_sl ([.ref (ad o), .int st, .ref ou]) ++ List.replicate (4 - (lg_sl ([.ref (ad o), .int st, .ref ou])).length) Slot.unset).toArray = ls at hl ⊢
  have hl : lv_has ls 4 [(0, .ref (ad o)), (1, .int st), (2, .ref ou)] := hl
  refine lv_aload_n hx hb dL_offers_0 rfl (lv_at hl 2 rfl) ?_
  refine lv_iconst (v := 0) hx hb dL_offers_1 (by decide) ?_
  refine lv_aload_n hx hb dL_offers_2 rfl (lv_at hl 0 rfl) ?_
  refine lv_iload_n hx hb dL_offers_3 rfl (lv_at hl 1 rfl) ?_
  refine rdV (w0 := (wRR G ad o sg)) (As := [.int st]) (rest := [.int 0, .ref ou]) CF (k_X6_offers l G ad o sg st h0) (cwV 1 hts gL_offers_X6_offers rfl rfl rfl (by decide +kernel) ⟨Nat.le_of_ble_eq_true rfl, Nat.le_of_ble_eq_true rfl⟩) hP.apr hY rfl rfl rfl hl.1 rfl (lv_room (Nat.le_of_ble_eq_true rfl)) dL_offers_4 ⟨Nat.zero_le _, Nat.zero_le _⟩ ?_
  refine lv_i2l hx hb dL_offers_7 rfl ?_
  refine va_last hx hb hY.1 hP hD hS 0 2 rfl rfl vp_0_1 dL_offers_8 (fun H locs hP hD hS => ?_)
  have hP : va_P G.1 vwCl ([(ou, .inl (G.2.2.2, 1, .inr (.inl (vp_updL fo (0 : Int32).toNatClampNeg ((if st = 2 then sg.2.1.2.2.1 + sg.2.2.1.2.2.1 else (rrStr sg st).2.2.1).toInt64)))))] ++ (wRR G ad o sg)) H := hP
  have hD : va_D A ([(ou, .inl (G.2.2.2, 1, .inr (.inl (vp_updL fo (0 : Int32).toNatClampNeg ((if st = 2 then sg.2.1.2.2.1 + sg.2.2.1.2.2.1 else (rrStr sg st).2.2.1).toInt64)))))] ++ (wRR G ad o sg)) := hD
  refine lv_goto (tgt := 15) hx hb dL_offers_9 (by decide) ?_
  refine lv_iconst (v := 0) hx hb dL_offers_15 (by decide) ?_
  refine W.widen (k := 1) (n := 6) (Nat.zero_le _) (Nat.zero_le _) ?_
  exact ca_iret hx hb hr hlk hS hP (by first | with_reducible rfl | (simp only [sld_eq, ↓reduceIte]; done)) (by first | with_reducible rfl | (simp only [sld_eq, ↓reduceIte]; done)) dL_offers_16

set_option maxHeartbeats 4000000 in
set_option maxRecDepth 100000 in
theorem k1_L_offers (l : Launch) (hl0 : l.stackTraces = false) (G : GT) (ad : Nat → Nat) (o : Nat) (sg : RRT) (st : Int32) (ou : Nat) (fo : Nat → Int64) (hk : ¬ (okA st 0 2)) : Ca l yL_offers wsL_offers { frames := 8, cells := 1, slots := 6, locals := 143 } G ([(ou, .inl (G.2.2.2, 1, .inr (.inl fo)))] ++ (wRR G ad o sg)) ([(ou, .inl (G.2.2.2, 1, .inr (.inl fo)))] ++ (wRR G ad o sg)) [.ref (ad o), .int st, .ref ou] (some (.int 1)) := by
  intro sz
  refine met_ofWH (cc := cL_offers) (maxL := 4) (ret := (some .int)) (hh := [(0, 9, 12, 13)]) (by decide) rfl ?_
  intro p e s m args below meth c s₁ B hml hv
  obtain ⟨rfl, hsz, hP, hY, hD0, hZ0⟩ := hv
  subst hsz
  have hD := hD0.self (sz := s.heap.size)
  generalize hAe : va_A ([(ou, .inl (G.2.2.2, 1, .inr (.inl fo)))] ++ (wRR G ad o sg)) s.heap.size = A at hD hZ0 ⊢
  have hZ : Zs A s s.heap := hZ0
  have hA : ∀ q : Nat, s.heap.size ≤ q → A q := fun q h => by rw [← hAe]; exact Or.inr h
  have hS : va_S A s.heap s.heap [] := va_S.rf
  have hx := B.exec
  have hb := B.bytes
  have hr := B.returns
  have hts := atoms_spec (ws := wsL_offers) B.pre
  have hown : s.vm.findClass RL = some m.cls := findClass_of_methodNamed B.named
  have hlk := B.notSynchronized
  have CF : CallFix p m c cL_offers 4 s _ wsL_offers RL := ⟨hx, hb, hml, hown, hts⟩
  have kx0 := hts (.classLink RL 13 "java/lang/IllegalArgumentException") (List.mem_cons_of_mem _ (List.mem_append_left _ (List.mem_append_left _ (List.mem_append_left _ (List.mem_of_getElem? (i := 0) rfl)))))
  have htab := vx_table (x := yL_offers) B (hts (.codeWith yL_offers cL_offers 4 (some .int) [(0, 9, 12, 13)]) List.mem_cons_self)
  have hl := lv_entry ([.ref (ad o), .int st, .ref ou]) (n := 4) (Nat.le_of_ble_eq_true rfl)
  rw [lg_entry_eq]
  generalize (lg_sl ([.ref (ad o), .int st, .ref ou]) ++ List.replicate (4 - (lg_sl ([.ref (ad o), .int st, .ref ou])).length) Slot.unset).toArray = ls at hl ⊢
  have hl : lv_has ls 4 [(0, .ref (ad o)), (1, .int st), (2, .ref ou)] := hl
  refine lv_aload_n hx hb dL_offers_0 rfl (lv_at hl 2 rfl) ?_
  refine lv_iconst (v := 0) hx hb dL_offers_1 (by decide) ?_
  refine lv_aload_n hx hb dL_offers_2 rfl (lv_at hl 0 rfl) ?_
  refine lv_iload_n hx hb dL_offers_3 rfl (lv_at hl 1 rfl) ?_
  have hP9 := hP
  have hD9 := hD
  rw [← List.append_nil (wRR G ad o sg)] at hP9 hD9
  refine noV [(ou, .inl (G.2.2.2, 1, .inr (.inl fo)))] (wRR G ad o sg) [] (wRR G ad o sg) (As := [.int st]) (rest := [.int 0, .ref ou]) CF (kn_X6_offers l hl0 G ad o sg st hk) (cwV 1 hts gL_offers_X6_offers rfl rfl rfl (by decide +kernel) ⟨Nat.le_of_ble_eq_true rfl, Nat.le_of_ble_eq_true rfl⟩) hP9 hD9 hS hA hY hZ rfl rfl (fst_RR _ _ _ _ _) rfl hl.1 rfl (lv_room (Nat.le_of_ble_eq_true rfl)) dL_offers_4 ⟨Nat.le_of_ble_eq_true rfl, Nat.le_of_ble_eq_true rfl⟩ (fun ce q9 H locs hP hD hS hce hcv hcl => ?_)
  rw [List.append_nil] at hP hD
  have hP : va_P G.1 vwCl ([(ou, .inl (G.2.2.2, 1, .inr (.inl fo)))] ++ (wRR G ad o sg)) H := hP
  have hD : va_D A ([(ou, .inl (G.2.2.2, 1, .inr (.inl fo)))] ++ (wRR G ad o sg)) := hD
  refine vx_catch (own := RL) (name := "java/lang/IllegalArgumentException") hown [] ⟨0, 9, 12, 13⟩ [] htab (fun z hz => nomatch hz) rfl (by decide) kx0 (va_Nw.use rfl (hY.2.1 (.castable "java/lang/IllegalArgumentException" "java/lang/IllegalArgumentException") (List.mem_of_getElem? (i := 39) rfl))) hce hcv hcl ?_
  refine lv_astore_n (lv' := [(3, .ref q9), (0, .ref (ad o)), (1, .int st), (2, .ref ou)]) hx hb dL_offers_12 rfl hl (by decide) rfl (fun ls hl => ?_)
  refine lv_iconst (v := 1) hx hb dL_offers_13 (by decide) ?_
  exact ca_iret hx hb hr hlk hS hP (by first | with_reducible rfl | (simp only [sld_eq, ↓reduceIte]; done)) (by first | with_reducible rfl | (simp only [sld_eq, ↓reduceIte]; done)) dL_offers_14

set_option maxHeartbeats 4000000 in
set_option maxRecDepth 100000 in
theorem k_L_exactWeight (l : Launch) (G : GT) (ad : Nat → Nat) (o : Nat) (sg : RRT) (st gr : Int32) (ou : Nat) (fo : Nat → Int64) (h0 : okA st 0 2) (h1 : okA gr 0 3) : Ca l yL_exactWeight wsL_exactWeight { frames := 8, cells := 1, slots := 6, locals := 144 } G ([(ou, .inl (G.2.2.2, 1, .inr (.inl fo)))] ++ (wRR G ad o sg)) ([(ou, .inl (G.2.2.2, 1, .inr (.inl (vp_updL fo (0 : Int32).toNatClampNeg ((if st = 2 then (strGrp sg.2.1 gr).1 + (strGrp sg.2.2.1 gr).1 else (strGrp (rrStr sg st) gr).1)).toInt64))))] ++ (wRR G ad o sg)) [.ref (ad o), .int st, .int gr, .ref ou] (some (.int 0)) := by
  intro sz
  refine met_ofWH (cc := cL_exactWeight) (maxL := 5) (ret := (some .int)) (hh := [(0, 10, 13, 13)]) (by decide) rfl ?_
  intro p e s m args below meth c s₁ B hml hv
  obtain ⟨rfl, hsz, hP, hY, hD0, hZ0⟩ := hv
  subst hsz
  have hD := hD0.self (sz := s.heap.size)
  generalize hAe : va_A ([(ou, .inl (G.2.2.2, 1, .inr (.inl fo)))] ++ (wRR G ad o sg)) s.heap.size = A at hD hZ0 ⊢
  have hZ : Zs A s s.heap := hZ0
  have hA : ∀ q : Nat, s.heap.size ≤ q → A q := fun q h => by rw [← hAe]; exact Or.inr h
  have hS : va_S A s.heap s.heap [] := va_S.rf
  have hx := B.exec
  have hb := B.bytes
  have hr := B.returns
  have hts := atoms_spec (ws := wsL_exactWeight) B.pre
  have hown : s.vm.findClass RL = some m.cls := findClass_of_methodNamed B.named
  have hlk := B.notSynchronized
  have CF : CallFix p m c cL_exactWeight 5 s _ wsL_exactWeight RL := ⟨hx, hb, hml, hown, hts⟩
  have hl := lv_entry ([.ref (ad o), .int st, .int gr, .ref ou]) (n := 5) (Nat.le_of_ble_eq_true rfl)
  rw [lg_entry_eq]
  generalize (lg_sl ([.ref (ad o), .int st, .int gr, .ref ou]) ++ List.replicate (5 - (lg_sl ([.ref (ad o), .int st, .int gr, .ref ou])).length) Slot.unset).toArray = ls at hl ⊢
  have hl : lv_has ls 5 [(0, .ref (ad o)), (1, .int st), (2, .int gr), (3, .ref ou)] := hl
  refine lv_aload_n hx hb dL_exactWeight_0 rfl (lv_at hl 3 rfl) ?_
  refine lv_iconst (v := 0) hx hb dL_exactWeight_1 (by decide) ?_
  refine lv_aload_n hx hb dL_exactWeight_2 rfl (lv_at hl 0 rfl) ?_
  refine lv_iload_n hx hb dL_exactWeight_3 rfl (lv_at hl 1 rfl) ?_
  refine lv_iload_n hx hb dL_exactWeight_4 rfl (lv_at hl 2 rfl) ?_
  refine rdV (w0 := (wRR G ad o sg)) (As := [.int st, .int gr]) (rest := [.int 0, .ref ou]) CF (k_X6_exactWeight l G ad o sg st gr h0 h1) (cwV 2 hts gL_exactWeight_X6_exactWeight rfl rfl rfl (by decide +kernel) ⟨Nat.le_of_ble_eq_true rfl, Nat.le_of_ble_eq_true rfl⟩) hP.apr hY rfl rfl rfl hl.1 rfl (lv_room (Nat.le_of_ble_eq_true rfl)) dL_exactWeight_5 ⟨Nat.zero_le _, Nat.zero_le _⟩ ?_
  refine lv_i2l hx hb dL_exactWeight_8 rfl ?_
  refine va_last hx hb hY.1 hP hD hS 0 2 rfl rfl vp_0_1 dL_exactWeight_9 (fun H locs hP hD hS => ?_)
  have hP : va_P G.1 vwCl ([(ou, .inl (G.2.2.2, 1, .inr (.inl (vp_updL fo (0 : Int32).toNatClampNeg ((if st = 2 then (strGrp sg.2.1 gr).1 + (strGrp sg.2.2.1 gr).1 else (strGrp (rrStr sg st) gr).1).toInt64)))))] ++ (wRR G ad o sg)) H := hP
  have hD : va_D A ([(ou, .inl (G.2.2.2, 1, .inr (.inl (vp_updL fo (0 : Int32).toNatClampNeg ((if st = 2 then (strGrp sg.2.1 gr).1 + (strGrp sg.2.2.1 gr).1 else (strGrp (rrStr sg st) gr).1).toInt64)))))] ++ (wRR G ad o sg)) := hD
  refine lv_goto (tgt := 17) hx hb dL_exactWeight_10 (by decide) ?_
  refine lv_iconst (v := 0) hx hb dL_exactWeight_17 (by decide) ?_
  refine W.widen (k := 1) (n := 6) (Nat.zero_le _) (Nat.zero_le _) ?_
  exact ca_iret hx hb hr hlk hS hP (by first | with_reducible rfl | (simp only [sld_eq, ↓reduceIte]; done)) (by first | with_reducible rfl | (simp only [sld_eq, ↓reduceIte]; done)) dL_exactWeight_18

set_option maxHeartbeats 4000000 in
set_option maxRecDepth 100000 in
theorem k1_L_exactWeight (l : Launch) (hl0 : l.stackTraces = false) (G : GT) (ad : Nat → Nat) (o : Nat) (sg : RRT) (st gr : Int32) (ou : Nat) (fo : Nat → Int64) (hk : ¬ (okA st 0 2 ∧ okA gr 0 3)) : Ca l yL_exactWeight wsL_exactWeight { frames := 8, cells := 1, slots := 6, locals := 144 } G ([(ou, .inl (G.2.2.2, 1, .inr (.inl fo)))] ++ (wRR G ad o sg)) ([(ou, .inl (G.2.2.2, 1, .inr (.inl fo)))] ++ (wRR G ad o sg)) [.ref (ad o), .int st, .int gr, .ref ou] (some (.int 1)) := by
  intro sz
  refine met_ofWH (cc := cL_exactWeight) (maxL := 5) (ret := (some .int)) (hh := [(0, 10, 13, 13)]) (by decide) rfl ?_
  intro p e s m args below meth c s₁ B hml hv
  obtain ⟨rfl, hsz, hP, hY, hD0, hZ0⟩ := hv
  subst hsz
  have hD := hD0.self (sz := s.heap.size)
  generalize hAe : va_A ([(ou, .inl (G.2.2.2, 1, .inr (.inl fo)))] ++ (wRR G ad o sg)) s.heap.size = A at hD hZ0 ⊢
  have hZ : Zs A s s.heap := hZ0
  have hA : ∀ q : Nat, s.heap.size ≤ q → A q := fun q h => by rw [← hAe]; exact Or.inr h
  have hS : va_S A s.heap s.heap [] := va_S.rf
  have hx := B.exec
  have hb := B.bytes
  have hr := B.returns
  have hts := atoms_spec (ws := wsL_exactWeight) B.pre
  have hown : s.vm.findClass RL = some m.cls := findClass_of_methodNamed B.named
  have hlk := B.notSynchronized
  have CF : CallFix p m c cL_exactWeight 5 s _ wsL_exactWeight RL := ⟨hx, hb, hml, hown, hts⟩
  have kx0 := hts (.classLink RL 13 "java/lang/IllegalArgumentException") (List.mem_cons_of_mem _ (List.mem_append_left _ (List.mem_append_left _ (List.mem_append_left _ (List.mem_append_left _ (List.mem_append_left _ (List.mem_of_getElem? (i := 0) rfl)))))))
  have htab := vx_table (x := yL_exactWeight) B (hts (.codeWith yL_exactWeight cL_exactWeight 5 (some .int) [(0, 10, 13, 13)]) List.mem_cons_self)
  have hl := lv_entry ([.ref (ad o), .int st, .int gr, .ref ou]) (n := 5) (Nat.le_of_ble_eq_true rfl)
  rw [lg_entry_eq]
  generalize (lg_sl ([.ref (ad o), .int st, .int gr, .ref ou]) ++ List.replicate (5 - (lg_sl ([.ref (ad o), .int st, .int gr, .ref ou])).length) Slot.unset).toArray = ls at hl ⊢
  have hl : lv_has ls 5 [(0, .ref (ad o)), (1, .int st), (2, .int gr), (3, .ref ou)] := hl
  refine lv_aload_n hx hb dL_exactWeight_0 rfl (lv_at hl 3 rfl) ?_
  refine lv_iconst (v := 0) hx hb dL_exactWeight_1 (by decide) ?_
  refine lv_aload_n hx hb dL_exactWeight_2 rfl (lv_at hl 0 rfl) ?_
  refine lv_iload_n hx hb dL_exactWeight_3 rfl (lv_at hl 1 rfl) ?_
  refine lv_iload_n hx hb dL_exactWeight_4 rfl (lv_at hl 2 rfl) ?_
  have hP9 := hP
  have hD9 := hD
  rw [← List.append_nil (wRR G ad o sg)] at hP9 hD9
  refine noV [(ou, .inl (G.2.2.2, 1, .inr (.inl fo)))] (wRR G ad o sg) [] (wRR G ad o sg) (As := [.int st, .int gr]) (rest := [.int 0, .ref ou]) CF (kn_X6_exactWeight l hl0 G ad o sg st gr hk) (cwV 2 hts gL_exactWeight_X6_exactWeight rfl rfl rfl (by decide +kernel) ⟨Nat.le_of_ble_eq_true rfl, Nat.le_of_ble_eq_true rfl⟩) hP9 hD9 hS hA hY hZ rfl rfl (fst_RR _ _ _ _ _) rfl hl.1 rfl (lv_room (Nat.le_of_ble_eq_true rfl)) dL_exactWeight_5 ⟨Nat.le_of_ble_eq_true rfl, Nat.le_of_ble_eq_true rfl⟩ (fun ce q9 H locs hP hD hS hce hcv hcl => ?_)
  rw [List.append_nil] at hP hD
  have hP : va_P G.1 vwCl ([(ou, .inl (G.2.2.2, 1, .inr (.inl fo)))] ++ (wRR G ad o sg)) H := hP
  have hD : va_D A ([(ou, .inl (G.2.2.2, 1, .inr (.inl fo)))] ++ (wRR G ad o sg)) := hD
  refine vx_catch (own := RL) (name := "java/lang/IllegalArgumentException") hown [] ⟨0, 10, 13, 13⟩ [] htab (fun z hz => nomatch hz) rfl (by decide) kx0 (va_Nw.use rfl (hY.2.1 (.castable "java/lang/IllegalArgumentException" "java/lang/IllegalArgumentException") (List.mem_of_getElem? (i := 39) rfl))) hce hcv hcl ?_
  refine lv_astore (lv' := [(4, .ref q9), (0, .ref (ad o)), (1, .int st), (2, .int gr), (3, .ref ou)]) hx hb dL_exactWeight_13 hl (by decide) rfl (fun ls hl => ?_)
  refine lv_iconst (v := 1) hx hb dL_exactWeight_15 (by decide) ?_
  exact ca_iret hx hb hr hlk hS hP (by first | with_reducible rfl | (simp only [sld_eq, ↓reduceIte]; done)) (by first | with_reducible rfl | (simp only [sld_eq, ↓reduceIte]; done)) dL_exactWeight_16

set_option maxHeartbeats 4000000 in
set_option maxRecDepth 100000 in
theorem k_L_reservoirSize (l : Launch) (G : GT) (ad : Nat → Nat) (o : Nat) (sg : RRT) (st : Int32) (ou : Nat) (fo : Nat → Int64) (h0 : okA st 0 1) : Ca l yL_reservoirSize wsL_reservoirSize { frames := 8, cells := 1, slots := 6, locals := 143 } G ([(ou, .inl (G.2.2.2, 1, .inr (.inl fo)))] ++ (wRR G ad o sg)) ([(ou, .inl (G.2.2.2, 1, .inr (.inl (vp_updL fo (0 : Int32).toNatClampNeg (resFilled (rrStr sg st).2.2.2.1).toInt64))))] ++ (wRR G ad o sg)) [.ref (ad o), .int st, .ref ou] (some (.int 0)) := by
  intro sz
  refine met_ofWH (cc := cL_reservoirSize) (maxL := 4) (ret := (some .int)) (hh := [(0, 9, 12, 13)]) (by decide) rfl ?_
  intro p e s m args below meth c s₁ B hml hv
  obtain ⟨rfl, hsz, hP, hY, hD0, hZ0⟩ := hv
  subst hsz
  have hD := hD0.self (sz := s.heap.size)
  generalize hAe : va_A ([(ou, .inl (G.2.2.2, 1, .inr (.inl fo)))] ++ (wRR G ad o sg)) s.heap.size = A at hD hZ0 ⊢
  have hZ : Zs A s s.heap := hZ0
  have hA : ∀ q : Nat, s.heap.size ≤ q → A q := fun q h => by rw [← hAe]; exact Or.inr h
  have hS : va_S A s.heap s.heap [] := va_S.rf
  have hx := B.exec
  have hb := B.bytes
  have hr := B.returns
  have hts := atoms_spec (ws := wsL_reservoirSize) B.pre
  have hown : s.vm.findClass RL = some m.cls := findClass_of_methodNamed B.named
  have hlk := B.notSynchronized
  have CF : CallFix p m c cL_reservoirSize 4 s _ wsL_reservoirSize RL := ⟨hx, hb, hml, hown, hts⟩
  have hl := lv_entry ([.ref (ad o), .int st, .ref ou]) (n := 4) (Nat.le_of_ble_eq_true rfl)
  rw [lg_entry_eq]
  generalize (lg_sl ([.ref (ad o), .int st, .ref ou]) ++ List.replicate (4 - (lg_sl ([.ref (ad o), .int st, .ref ou])).length) Slot.unset).toArray = ls at hl ⊢
  have hl : lv_has ls 4 [(0, .ref (ad o)), (1, .int st), (2, .ref ou)] := hl
  refine lv_aload_n hx hb dL_reservoirSize_0 rfl (lv_at hl 2 rfl) ?_
  refine lv_iconst (v := 0) hx hb dL_reservoirSize_1 (by decide) ?_
  refine lv_aload_n hx hb dL_reservoirSize_2 rfl (lv_at hl 0 rfl) ?_
  refine lv_iload_n hx hb dL_reservoirSize_3 rfl (lv_at hl 1 rfl) ?_
  refine rdV (w0 := (wRR G ad o sg)) (As := [.int st]) (rest := [.int 0, .ref ou]) CF (k_X6_reservoirSize l G ad o sg st h0) (cwV 1 hts gL_reservoirSize_X6_reservoirSize rfl rfl rfl (by decide +kernel) ⟨Nat.le_of_ble_eq_true rfl, Nat.le_of_ble_eq_true rfl⟩) hP.apr hY rfl rfl rfl hl.1 rfl (lv_room (Nat.le_of_ble_eq_true rfl)) dL_reservoirSize_4 ⟨Nat.zero_le _, Nat.zero_le _⟩ ?_
  refine lv_i2l hx hb dL_reservoirSize_7 rfl ?_
  refine va_last hx hb hY.1 hP hD hS 0 2 rfl rfl vp_0_1 dL_reservoirSize_8 (fun H locs hP hD hS => ?_)
  have hP : va_P G.1 vwCl ([(ou, .inl (G.2.2.2, 1, .inr (.inl (vp_updL fo (0 : Int32).toNatClampNeg ((resFilled (rrStr sg st).2.2.2.1).toInt64)))))] ++ (wRR G ad o sg)) H := hP
  have hD : va_D A ([(ou, .inl (G.2.2.2, 1, .inr (.inl (vp_updL fo (0 : Int32).toNatClampNeg ((resFilled (rrStr sg st).2.2.2.1).toInt64)))))] ++ (wRR G ad o sg)) := hD
  refine lv_goto (tgt := 15) hx hb dL_reservoirSize_9 (by decide) ?_
  refine lv_iconst (v := 0) hx hb dL_reservoirSize_15 (by decide) ?_
  refine W.widen (k := 1) (n := 6) (Nat.zero_le _) (Nat.zero_le _) ?_
  exact ca_iret hx hb hr hlk hS hP (by first | with_reducible rfl | (simp only [sld_eq, ↓reduceIte]; done)) (by first | with_reducible rfl | (simp only [sld_eq, ↓reduceIte]; done)) dL_reservoirSize_16

set_option maxHeartbeats 4000000 in
set_option maxRecDepth 100000 in
theorem k1_L_reservoirSize (l : Launch) (hl0 : l.stackTraces = false) (G : GT) (ad : Nat → Nat) (o : Nat) (sg : RRT) (st : Int32) (ou : Nat) (fo : Nat → Int64) (hk : ¬ (okA st 0 1)) : Ca l yL_reservoirSize wsL_reservoirSize { frames := 8, cells := 1, slots := 6, locals := 143 } G ([(ou, .inl (G.2.2.2, 1, .inr (.inl fo)))] ++ (wRR G ad o sg)) ([(ou, .inl (G.2.2.2, 1, .inr (.inl fo)))] ++ (wRR G ad o sg)) [.ref (ad o), .int st, .ref ou] (some (.int 1)) := by
  intro sz
  refine met_ofWH (cc := cL_reservoirSize) (maxL := 4) (ret := (some .int)) (hh := [(0, 9, 12, 13)]) (by decide) rfl ?_
  intro p e s m args below meth c s₁ B hml hv
  obtain ⟨rfl, hsz, hP, hY, hD0, hZ0⟩ := hv
  subst hsz
  have hD := hD0.self (sz := s.heap.size)
  generalize hAe : va_A ([(ou, .inl (G.2.2.2, 1, .inr (.inl fo)))] ++ (wRR G ad o sg)) s.heap.size = A at hD hZ0 ⊢
  have hZ : Zs A s s.heap := hZ0
  have hA : ∀ q : Nat, s.heap.size ≤ q → A q := fun q h => by rw [← hAe]; exact Or.inr h
  have hS : va_S A s.heap s.heap [] := va_S.rf
  have hx := B.exec
  have hb := B.bytes
  have hr := B.returns
  have hts := atoms_spec (ws := wsL_reservoirSize) B.pre
  have hown : s.vm.findClass RL = some m.cls := findClass_of_methodNamed B.named
  have hlk := B.notSynchronized
  have CF : CallFix p m c cL_reservoirSize 4 s _ wsL_reservoirSize RL := ⟨hx, hb, hml, hown, hts⟩
  have kx0 := hts (.classLink RL 13 "java/lang/IllegalArgumentException") (List.mem_cons_of_mem _ (List.mem_append_left _ (List.mem_append_left _ (List.mem_append_left _ (List.mem_append_left _ (List.mem_append_left _ (List.mem_of_getElem? (i := 0) rfl)))))))
  have htab := vx_table (x := yL_reservoirSize) B (hts (.codeWith yL_reservoirSize cL_reservoirSize 4 (some .int) [(0, 9, 12, 13)]) List.mem_cons_self)
  have hl := lv_entry ([.ref (ad o), .int st, .ref ou]) (n := 4) (Nat.le_of_ble_eq_true rfl)
  rw [lg_entry_eq]
  generalize (lg_sl ([.ref (ad o), .int st, .ref ou]) ++ List.replicate (4 - (lg_sl ([.ref (ad o), .int st, .ref ou])).length) Slot.unset).toArray = ls at hl ⊢
  have hl : lv_has ls 4 [(0, .ref (ad o)), (1, .int st), (2, .ref ou)] := hl
  refine lv_aload_n hx hb dL_reservoirSize_0 rfl (lv_at hl 2 rfl) ?_
  refine lv_iconst (v := 0) hx hb dL_reservoirSize_1 (by decide) ?_
  refine lv_aload_n hx hb dL_reservoirSize_2 rfl (lv_at hl 0 rfl) ?_
  refine lv_iload_n hx hb dL_reservoirSize_3 rfl (lv_at hl 1 rfl) ?_
  have hP9 := hP
  have hD9 := hD
  rw [← List.append_nil (wRR G ad o sg)] at hP9 hD9
  refine noV [(ou, .inl (G.2.2.2, 1, .inr (.inl fo)))] (wRR G ad o sg) [] (wRR G ad o sg) (As := [.int st]) (rest := [.int 0, .ref ou]) CF (kn_X6_reservoirSize l hl0 G ad o sg st hk) (cwV 1 hts gL_reservoirSize_X6_reservoirSize rfl rfl rfl (by decide +kernel) ⟨Nat.le_of_ble_eq_true rfl, Nat.le_of_ble_eq_true rfl⟩) hP9 hD9 hS hA hY hZ rfl rfl (fst_RR _ _ _ _ _) rfl hl.1 rfl (lv_room (Nat.le_of_ble_eq_true rfl)) dL_reservoirSize_4 ⟨Nat.le_of_ble_eq_true rfl, Nat.le_of_ble_eq_true rfl⟩ (fun ce q9 H locs hP hD hS hce hcv hcl => ?_)
  rw [List.append_nil] at hP hD
  have hP : va_P G.1 vwCl ([(ou, .inl (G.2.2.2, 1, .inr (.inl fo)))] ++ (wRR G ad o sg)) H := hP
  have hD : va_D A ([(ou, .inl (G.2.2.2, 1, .inr (.inl fo)))] ++ (wRR G ad o sg)) := hD
  refine vx_catch (own := RL) (name := "java/lang/IllegalArgumentException") hown [] ⟨0, 9, 12, 13⟩ [] htab (fun z hz => nomatch hz) rfl (by decide) kx0 (va_Nw.use rfl (hY.2.1 (.castable "java/lang/IllegalArgumentException" "java/lang/IllegalArgumentException") (List.mem_of_getElem? (i := 39) rfl))) hce hcv hcl ?_
  refine lv_astore_n (lv' := [(3, .ref q9), (0, .ref (ad o)), (1, .int st), (2, .ref ou)]) hx hb dL_reservoirSize_12 rfl hl (by decide) rfl (fun ls hl => ?_)
  refine lv_iconst (v := 1) hx hb dL_reservoirSize_13 (by decide) ?_
  exact ca_iret hx hb hr hlk hS hP (by first | with_reducible rfl | (simp only [sld_eq, ↓reduceIte]; done)) (by first | with_reducible rfl | (simp only [sld_eq, ↓reduceIte]; done)) dL_reservoirSize_14

set_option maxHeartbeats 4000000 in
set_option maxRecDepth 100000 in
theorem k_L_reservoirItem (l : Launch) (G : GT) (ad : Nat → Nat) (o : Nat) (sg : RRT) (st sl : Int32) (ou : Nat) (fo : Nat → Int64) (h0 : okA st 0 1) (hs : okP sl (resFilled (rrStr sg st).2.2.2.1)) : Ca l yL_reservoirItem wsL_reservoirItem { frames := 8, cells := 1, slots := 6, locals := 145 } G ([(ou, .inl (G.2.2.2, 1, .inr (.inl fo)))] ++ (wRR G ad o sg)) ([(ou, .inl (G.2.2.2, 1, .inr (.inl (vp_updL fo (0 : Int32).toNatClampNeg (at_ 16 (rrStr sg st).2.2.2.1.2.2.1 sl).toInt64))))] ++ (wRR G ad o sg)) [.ref (ad o), .int st, .int sl, .ref ou] (some (.int 0)) := by
  intro sz
  refine met_ofWH (cc := cL_reservoirItem) (maxL := 5) (ret := (some .int)) (hh := [(0, 10, 13, 13), (0, 10, 17, 38)]) (by decide) rfl ?_
  intro p e s m args below meth c s₁ B hml hv
  obtain ⟨rfl, hsz, hP, hY, hD0, hZ0⟩ := hv
  subst hsz
  have hD := hD0.self (sz := s.heap.size)
  generalize hAe : va_A ([(ou, .inl (G.2.2.2, 1, .inr (.inl fo)))] ++ (wRR G ad o sg)) s.heap.size = A at hD hZ0 ⊢
  have hZ : Zs A s s.heap := hZ0
  have hA : ∀ q : Nat, s.heap.size ≤ q → A q := fun q h => by rw [← hAe]; exact Or.inr h
  have hS : va_S A s.heap s.heap [] := va_S.rf
  have hx := B.exec
  have hb := B.bytes
  have hr := B.returns
  have hts := atoms_spec (ws := wsL_reservoirItem) B.pre
  have hown : s.vm.findClass RL = some m.cls := findClass_of_methodNamed B.named
  have hlk := B.notSynchronized
  have CF : CallFix p m c cL_reservoirItem 5 s _ wsL_reservoirItem RL := ⟨hx, hb, hml, hown, hts⟩
  have hl := lv_entry ([.ref (ad o), .int st, .int sl, .ref ou]) (n := 5) (Nat.le_of_ble_eq_true rfl)
  rw [lg_entry_eq]
  generalize (lg_sl ([.ref (ad o), .int st, .int sl, .ref ou]) ++ List.replicate (5 - (lg_sl ([.ref (ad o), .int st, .int sl, .ref ou])).length) Slot.unset).toArray = ls at hl ⊢
  have hl : lv_has ls 5 [(0, .ref (ad o)), (1, .int st), (2, .int sl), (3, .ref ou)] := hl
  refine lv_aload_n hx hb dL_reservoirItem_0 rfl (lv_at hl 3 rfl) ?_
  refine lv_iconst (v := 0) hx hb dL_reservoirItem_1 (by decide) ?_
  refine lv_aload_n hx hb dL_reservoirItem_2 rfl (lv_at hl 0 rfl) ?_
  refine lv_iload_n hx hb dL_reservoirItem_3 rfl (lv_at hl 1 rfl) ?_
  refine lv_iload_n hx hb dL_reservoirItem_4 rfl (lv_at hl 2 rfl) ?_
  refine rdV (w0 := (wRR G ad o sg)) (As := [.int st, .int sl]) (rest := [.int 0, .ref ou]) CF (k_X6_reservoirItem l G ad o sg st sl h0 hs) (cwV 2 hts gL_reservoirItem_X6_reservoirItem rfl rfl rfl (by decide +kernel) ⟨Nat.le_of_ble_eq_true rfl, Nat.le_of_ble_eq_true rfl⟩) hP.apr hY rfl rfl rfl hl.1 rfl (lv_room (Nat.le_of_ble_eq_true rfl)) dL_reservoirItem_5 ⟨Nat.zero_le _, Nat.zero_le _⟩ ?_
  refine lv_i2l hx hb dL_reservoirItem_8 rfl ?_
  refine va_last hx hb hY.1 hP hD hS 0 2 rfl rfl vp_0_1 dL_reservoirItem_9 (fun H locs hP hD hS => ?_)
  have hP : va_P G.1 vwCl ([(ou, .inl (G.2.2.2, 1, .inr (.inl (vp_updL fo (0 : Int32).toNatClampNeg ((at_ 16 (rrStr sg st).2.2.2.1.2.2.1 sl).toInt64)))))] ++ (wRR G ad o sg)) H := hP
  have hD : va_D A ([(ou, .inl (G.2.2.2, 1, .inr (.inl (vp_updL fo (0 : Int32).toNatClampNeg ((at_ 16 (rrStr sg st).2.2.2.1.2.2.1 sl).toInt64)))))] ++ (wRR G ad o sg)) := hD
  refine lv_goto (tgt := 21) hx hb dL_reservoirItem_10 (by decide) ?_
  refine lv_iconst (v := 0) hx hb dL_reservoirItem_21 (by decide) ?_
  refine W.widen (k := 1) (n := 6) (Nat.zero_le _) (Nat.zero_le _) ?_
  exact ca_iret hx hb hr hlk hS hP (by first | with_reducible rfl | (simp only [sld_eq, ↓reduceIte]; done)) (by first | with_reducible rfl | (simp only [sld_eq, ↓reduceIte]; done)) dL_reservoirItem_22

set_option maxHeartbeats 4000000 in
set_option maxRecDepth 100000 in
theorem k1_L_reservoirItem (l : Launch) (hl0 : l.stackTraces = false) (G : GT) (ad : Nat → Nat) (o : Nat) (sg : RRT) (st sl : Int32) (ou : Nat) (fo : Nat → Int64) (hk : ¬ (okA st 0 1)) : Ca l yL_reservoirItem wsL_reservoirItem { frames := 8, cells := 1, slots := 6, locals := 145 } G ([(ou, .inl (G.2.2.2, 1, .inr (.inl fo)))] ++ (wRR G ad o sg)) ([(ou, .inl (G.2.2.2, 1, .inr (.inl fo)))] ++ (wRR G ad o sg)) [.ref (ad o), .int st, .int sl, .ref ou] (some (.int 1)) := by
  intro sz
  refine met_ofWH (cc := cL_reservoirItem) (maxL := 5) (ret := (some .int)) (hh := [(0, 10, 13, 13), (0, 10, 17, 38)]) (by decide) rfl ?_
  intro p e s m args below meth c s₁ B hml hv
  obtain ⟨rfl, hsz, hP, hY, hD0, hZ0⟩ := hv
  subst hsz
  have hD := hD0.self (sz := s.heap.size)
  generalize hAe : va_A ([(ou, .inl (G.2.2.2, 1, .inr (.inl fo)))] ++ (wRR G ad o sg)) s.heap.size = A at hD hZ0 ⊢
  have hZ : Zs A s s.heap := hZ0
  have hA : ∀ q : Nat, s.heap.size ≤ q → A q := fun q h => by rw [← hAe]; exact Or.inr h
  have hS : va_S A s.heap s.heap [] := va_S.rf
  have hx := B.exec
  have hb := B.bytes
  have hr := B.returns
  have hts := atoms_spec (ws := wsL_reservoirItem) B.pre
  have hown : s.vm.findClass RL = some m.cls := findClass_of_methodNamed B.named
  have hlk := B.notSynchronized
  have CF : CallFix p m c cL_reservoirItem 5 s _ wsL_reservoirItem RL := ⟨hx, hb, hml, hown, hts⟩
  have kx0 := hts (.classLink RL 13 "java/lang/IllegalArgumentException") (List.mem_cons_of_mem _ (List.mem_append_left _ (List.mem_append_left _ (List.mem_append_left _ (List.mem_append_left _ (List.mem_append_left _ (List.mem_append_left _ (List.mem_of_getElem? (i := 0) rfl))))))))
  have htab := vx_table (x := yL_reservoirItem) B (hts (.codeWith yL_reservoirItem cL_reservoirItem 5 (some .int) [(0, 10, 13, 13), (0, 10, 17, 38)]) List.mem_cons_self)
  have hl := lv_entry ([.ref (ad o), .int st, .int sl, .ref ou]) (n := 5) (Nat.le_of_ble_eq_true rfl)
  rw [lg_entry_eq]
  generalize (lg_sl ([.ref (ad o), .int st, .int sl, .ref ou]) ++ List.replicate (5 - (lg_sl ([.ref (ad o), .int st, .int sl, .ref ou])).length) Slot.unset).toArray = ls at hl ⊢
  have hl : lv_has ls 5 [(0, .ref (ad o)), (1, .int st), (2, .int sl), (3, .ref ou)] := hl
  refine lv_aload_n hx hb dL_reservoirItem_0 rfl (lv_at hl 3 rfl) ?_
  refine lv_iconst (v := 0) hx hb dL_reservoirItem_1 (by decide) ?_
  refine lv_aload_n hx hb dL_reservoirItem_2 rfl (lv_at hl 0 rfl) ?_
  refine lv_iload_n hx hb dL_reservoirItem_3 rfl (lv_at hl 1 rfl) ?_
  refine lv_iload_n hx hb dL_reservoirItem_4 rfl (lv_at hl 2 rfl) ?_
  have hP9 := hP
  have hD9 := hD
  rw [← List.append_nil (wRR G ad o sg)] at hP9 hD9
  refine noV [(ou, .inl (G.2.2.2, 1, .inr (.inl fo)))] (wRR G ad o sg) [] (wRR G ad o sg) (As := [.int st, .int sl]) (rest := [.int 0, .ref ou]) CF (kn_X6_reservoirItem l hl0 G ad o sg st sl hk) (cwV 2 hts gL_reservoirItem_X6_reservoirItem rfl rfl rfl (by decide +kernel) ⟨Nat.le_of_ble_eq_true rfl, Nat.le_of_ble_eq_true rfl⟩) hP9 hD9 hS hA hY hZ rfl rfl (fst_RR _ _ _ _ _) rfl hl.1 rfl (lv_room (Nat.le_of_ble_eq_true rfl)) dL_reservoirItem_5 ⟨Nat.le_of_ble_eq_true rfl, Nat.le_of_ble_eq_true rfl⟩ (fun ce q9 H locs hP hD hS hce hcv hcl => ?_)
  rw [List.append_nil] at hP hD
  have hP : va_P G.1 vwCl ([(ou, .inl (G.2.2.2, 1, .inr (.inl fo)))] ++ (wRR G ad o sg)) H := hP
  have hD : va_D A ([(ou, .inl (G.2.2.2, 1, .inr (.inl fo)))] ++ (wRR G ad o sg)) := hD
  refine vx_catch (own := RL) (name := "java/lang/IllegalArgumentException") hown [] ⟨0, 10, 13, 13⟩ [⟨0, 10, 17, 38⟩] htab (fun z hz => nomatch hz) rfl (by decide) kx0 (va_Nw.use rfl (hY.2.1 (.castable "java/lang/IllegalArgumentException" "java/lang/IllegalArgumentException") (List.mem_of_getElem? (i := 39) rfl))) hce hcv hcl ?_
  refine lv_astore (lv' := [(4, .ref q9), (0, .ref (ad o)), (1, .int st), (2, .int sl), (3, .ref ou)]) hx hb dL_reservoirItem_13 hl (by decide) rfl (fun ls hl => ?_)
  refine lv_iconst (v := 1) hx hb dL_reservoirItem_15 (by decide) ?_
  exact ca_iret hx hb hr hlk hS hP (by first | with_reducible rfl | (simp only [sld_eq, ↓reduceIte]; done)) (by first | with_reducible rfl | (simp only [sld_eq, ↓reduceIte]; done)) dL_reservoirItem_16

set_option maxHeartbeats 4000000 in
set_option maxRecDepth 100000 in
theorem k2_L_reservoirItem (l : Launch) (hl0 : l.stackTraces = false) (G : GT) (ad : Nat → Nat) (o : Nat) (sg : RRT) (st sl : Int32) (ou : Nat) (fo : Nat → Int64) (h0 : okA st 0 1) (hs : ¬ okP sl (resFilled (rrStr sg st).2.2.2.1)) : Ca l yL_reservoirItem wsL_reservoirItem { frames := 8, cells := 1, slots := 6, locals := 145 } G ([(ou, .inl (G.2.2.2, 1, .inr (.inl fo)))] ++ (wRR G ad o sg)) ([(ou, .inl (G.2.2.2, 1, .inr (.inl fo)))] ++ (wRR G ad o sg)) [.ref (ad o), .int st, .int sl, .ref ou] (some (.int 2)) := by
  intro sz
  refine met_ofWH (cc := cL_reservoirItem) (maxL := 5) (ret := (some .int)) (hh := [(0, 10, 13, 13), (0, 10, 17, 38)]) (by decide) rfl ?_
  intro p e s m args below meth c s₁ B hml hv
  obtain ⟨rfl, hsz, hP, hY, hD0, hZ0⟩ := hv
  subst hsz
  have hD := hD0.self (sz := s.heap.size)
  generalize hAe : va_A ([(ou, .inl (G.2.2.2, 1, .inr (.inl fo)))] ++ (wRR G ad o sg)) s.heap.size = A at hD hZ0 ⊢
  have hZ : Zs A s s.heap := hZ0
  have hA : ∀ q : Nat, s.heap.size ≤ q → A q := fun q h => by rw [← hAe]; exact Or.inr h
  have hS : va_S A s.heap s.heap [] := va_S.rf
  have hx := B.exec
  have hb := B.bytes
  have hr := B.returns
  have hts := atoms_spec (ws := wsL_reservoirItem) B.pre
  have hown : s.vm.findClass RL = some m.cls := findClass_of_methodNamed B.named
  have hlk := B.notSynchronized
  have CF : CallFix p m c cL_reservoirItem 5 s _ wsL_reservoirItem RL := ⟨hx, hb, hml, hown, hts⟩
  have kx1 := hts (.classLink RL 38 "java/lang/IndexOutOfBoundsException") (List.mem_cons_of_mem _ (List.mem_append_left _ (List.mem_append_left _ (List.mem_append_left _ (List.mem_append_left _ (List.mem_append_left _ (List.mem_append_left _ (List.mem_of_getElem? (i := 1) rfl))))))))
  have kx0 := hts (.classLink RL 13 "java/lang/IllegalArgumentException") (List.mem_cons_of_mem _ (List.mem_append_left _ (List.mem_append_left _ (List.mem_append_left _ (List.mem_append_left _ (List.mem_append_left _ (List.mem_append_left _ (List.mem_of_getElem? (i := 0) rfl))))))))
  have htab := vx_table (x := yL_reservoirItem) B (hts (.codeWith yL_reservoirItem cL_reservoirItem 5 (some .int) [(0, 10, 13, 13), (0, 10, 17, 38)]) List.mem_cons_self)
  have hl := lv_entry ([.ref (ad o), .int st, .int sl, .ref ou]) (n := 5) (Nat.le_of_ble_eq_true rfl)
  rw [lg_entry_eq]
  generalize (lg_sl ([.ref (ad o), .int st, .int sl, .ref ou]) ++ List.replicate (5 - (lg_sl ([.ref (ad o), .int st, .int sl, .ref ou])).length) Slot.unset).toArray = ls at hl ⊢
  have hl : lv_has ls 5 [(0, .ref (ad o)), (1, .int st), (2, .int sl), (3, .ref ou)] := hl
  refine lv_aload_n hx hb dL_reservoirItem_0 rfl (lv_at hl 3 rfl) ?_
  refine lv_iconst (v := 0) hx hb dL_reservoirItem_1 (by decide) ?_
  refine lv_aload_n hx hb dL_reservoirItem_2 rfl (lv_at hl 0 rfl) ?_
  refine lv_iload_n hx hb dL_reservoirItem_3 rfl (lv_at hl 1 rfl) ?_
  refine lv_iload_n hx hb dL_reservoirItem_4 rfl (lv_at hl 2 rfl) ?_
  have hP9 := hP
  have hD9 := hD
  rw [← List.append_nil (wRR G ad o sg)] at hP9 hD9
  refine noV [(ou, .inl (G.2.2.2, 1, .inr (.inl fo)))] (wRR G ad o sg) [] (wRR G ad o sg) (As := [.int st, .int sl]) (rest := [.int 0, .ref ou]) CF (kn2_X6_reservoirItem l hl0 G ad o sg st sl h0 hs) (cwV 2 hts gL_reservoirItem_X6_reservoirItem rfl rfl rfl (by decide +kernel) ⟨Nat.le_of_ble_eq_true rfl, Nat.le_of_ble_eq_true rfl⟩) hP9 hD9 hS hA hY hZ rfl rfl (fst_RR _ _ _ _ _) rfl hl.1 rfl (lv_room (Nat.le_of_ble_eq_true rfl)) dL_reservoirItem_5 ⟨Nat.le_of_ble_eq_true rfl, Nat.le_of_ble_eq_true rfl⟩ (fun ce q9 H locs hP hD hS hce hcv hcl => ?_)
  rw [List.append_nil] at hP hD
  have hP : va_P G.1 vwCl ([(ou, .inl (G.2.2.2, 1, .inr (.inl fo)))] ++ (wRR G ad o sg)) H := hP
  have hD : va_D A ([(ou, .inl (G.2.2.2, 1, .inr (.inl fo)))] ++ (wRR G ad o sg)) := hD
  refine vx_catch (own := RL) (name := "java/lang/IndexOutOfBoundsException") hown [⟨0, 10, 13, 13⟩] ⟨0, 10, 17, 38⟩ [] htab (fun z hz => by rcases List.mem_singleton.mp hz with rfl; exact Or.inr ⟨by decide, _, kx0, hY.2.2.1 ("java/lang/IndexOutOfBoundsException", "java/lang/IllegalArgumentException") (List.mem_of_getElem? (i := 1) rfl)⟩) rfl (by decide) kx1 (va_Nw.use rfl (hY.2.1 (.castable "java/lang/IndexOutOfBoundsException" "java/lang/IndexOutOfBoundsException") (List.mem_of_getElem? (i := 41) rfl))) hce hcv hcl ?_
  refine lv_astore (lv' := [(4, .ref q9), (0, .ref (ad o)), (1, .int st), (2, .int sl), (3, .ref ou)]) hx hb dL_reservoirItem_17 hl (by decide) rfl (fun ls hl => ?_)
  refine lv_iconst (v := 2) hx hb dL_reservoirItem_19 (by decide) ?_
  exact ca_iret hx hb hr hlk hS hP (by first | with_reducible rfl | (simp only [sld_eq, ↓reduceIte]; done)) (by first | with_reducible rfl | (simp only [sld_eq, ↓reduceIte]; done)) dL_reservoirItem_20

set_option maxHeartbeats 4000000 in
set_option maxRecDepth 100000 in
theorem k_L_reservoirPosition (l : Launch) (G : GT) (ad : Nat → Nat) (o : Nat) (sg : RRT) (st sl : Int32) (ou : Nat) (fo : Nat → Int64) (h0 : okA st 0 1) (hs : okP sl (resFilled (rrStr sg st).2.2.2.1)) : Ca l yL_reservoirPosition wsL_reservoirPosition { frames := 8, cells := 1, slots := 6, locals := 145 } G ([(ou, .inl (G.2.2.2, 1, .inr (.inl fo)))] ++ (wRR G ad o sg)) ([(ou, .inl (G.2.2.2, 1, .inr (.inl (vp_updL fo (0 : Int32).toNatClampNeg (at_ 16 (rrStr sg st).2.2.2.1.2.2.2 sl).toInt64))))] ++ (wRR G ad o sg)) [.ref (ad o), .int st, .int sl, .ref ou] (some (.int 0)) := by
  intro sz
  refine met_ofWH (cc := cL_reservoirPosition) (maxL := 5) (ret := (some .int)) (hh := [(0, 10, 13, 13), (0, 10, 17, 38)]) (by decide) rfl ?_
  intro p e s m args below meth c s₁ B hml hv
  obtain ⟨rfl, hsz, hP, hY, hD0, hZ0⟩ := hv
  subst hsz
  have hD := hD0.self (sz := s.heap.size)
  generalize hAe : va_A ([(ou, .inl (G.2.2.2, 1, .inr (.inl fo)))] ++ (wRR G ad o sg)) s.heap.size = A at hD hZ0 ⊢
  have hZ : Zs A s s.heap := hZ0
  have hA : ∀ q : Nat, s.heap.size ≤ q → A q := fun q h => by rw [← hAe]; exact Or.inr h
  have hS : va_S A s.heap s.heap [] := va_S.rf
  have hx := B.exec
  have hb := B.bytes
  have hr := B.returns
  have hts := atoms_spec (ws := wsL_reservoirPosition) B.pre
  have hown : s.vm.findClass RL = some m.cls := findClass_of_methodNamed B.named
  have hlk := B.notSynchronized
  have CF : CallFix p m c cL_reservoirPosition 5 s _ wsL_reservoirPosition RL := ⟨hx, hb, hml, hown, hts⟩
  have hl := lv_entry ([.ref (ad o), .int st, .int sl, .ref ou]) (n := 5) (Nat.le_of_ble_eq_true rfl)
  rw [lg_entry_eq]
  generalize (lg_sl ([.ref (ad o), .int st, .int sl, .ref ou]) ++ List.replicate (5 - (lg_sl ([.ref (ad o), .int st, .int sl, .ref ou])).length) Slot.unset).toArray = ls at hl ⊢
  have hl : lv_has ls 5 [(0, .ref (ad o)), (1, .int st), (2, .int sl), (3, .ref ou)] := hl
  refine lv_aload_n hx hb dL_reservoirPosition_0 rfl (lv_at hl 3 rfl) ?_
  refine lv_iconst (v := 0) hx hb dL_reservoirPosition_1 (by decide) ?_
  refine lv_aload_n hx hb dL_reservoirPosition_2 rfl (lv_at hl 0 rfl) ?_
  refine lv_iload_n hx hb dL_reservoirPosition_3 rfl (lv_at hl 1 rfl) ?_
  refine lv_iload_n hx hb dL_reservoirPosition_4 rfl (lv_at hl 2 rfl) ?_
  refine rdV (w0 := (wRR G ad o sg)) (As := [.int st, .int sl]) (rest := [.int 0, .ref ou]) CF (k_X6_reservoirPosition l G ad o sg st sl h0 hs) (cwV 2 hts gL_reservoirPosition_X6_reservoirPosition rfl rfl rfl (by decide +kernel) ⟨Nat.le_of_ble_eq_true rfl, Nat.le_of_ble_eq_true rfl⟩) hP.apr hY rfl rfl rfl hl.1 rfl (lv_room (Nat.le_of_ble_eq_true rfl)) dL_reservoirPosition_5 ⟨Nat.zero_le _, Nat.zero_le _⟩ ?_
  refine lv_i2l hx hb dL_reservoirPosition_8 rfl ?_
  refine va_last hx hb hY.1 hP hD hS 0 2 rfl rfl vp_0_1 dL_reservoirPosition_9 (fun H locs hP hD hS => ?_)
  have hP : va_P G.1 vwCl ([(ou, .inl (G.2.2.2, 1, .inr (.inl (vp_updL fo (0 : Int32).toNatClampNeg ((at_ 16 (rrStr sg st).2.2.2.1.2.2.2 sl).toInt64)))))] ++ (wRR G ad o sg)) H := hP
  have hD : va_D A ([(ou, .inl (G.2.2.2, 1, .inr (.inl (vp_updL fo (0 : Int32).toNatClampNeg ((at_ 16 (rrStr sg st).2.2.2.1.2.2.2 sl).toInt64)))))] ++ (wRR G ad o sg)) := hD
  refine lv_goto (tgt := 21) hx hb dL_reservoirPosition_10 (by decide) ?_
  refine lv_iconst (v := 0) hx hb dL_reservoirPosition_21 (by decide) ?_
  refine W.widen (k := 1) (n := 6) (Nat.zero_le _) (Nat.zero_le _) ?_
  exact ca_iret hx hb hr hlk hS hP (by first | with_reducible rfl | (simp only [sld_eq, ↓reduceIte]; done)) (by first | with_reducible rfl | (simp only [sld_eq, ↓reduceIte]; done)) dL_reservoirPosition_22

set_option maxHeartbeats 4000000 in
set_option maxRecDepth 100000 in
theorem k1_L_reservoirPosition (l : Launch) (hl0 : l.stackTraces = false) (G : GT) (ad : Nat → Nat) (o : Nat) (sg : RRT) (st sl : Int32) (ou : Nat) (fo : Nat → Int64) (hk : ¬ (okA st 0 1)) : Ca l yL_reservoirPosition wsL_reservoirPosition { frames := 8, cells := 1, slots := 6, locals := 145 } G ([(ou, .inl (G.2.2.2, 1, .inr (.inl fo)))] ++ (wRR G ad o sg)) ([(ou, .inl (G.2.2.2, 1, .inr (.inl fo)))] ++ (wRR G ad o sg)) [.ref (ad o), .int st, .int sl, .ref ou] (some (.int 1)) := by
  intro sz
  refine met_ofWH (cc := cL_reservoirPosition) (maxL := 5) (ret := (some .int)) (hh := [(0, 10, 13, 13), (0, 10, 17, 38)]) (by decide) rfl ?_
  intro p e s m args below meth c s₁ B hml hv
  obtain ⟨rfl, hsz, hP, hY, hD0, hZ0⟩ := hv
  subst hsz
  have hD := hD0.self (sz := s.heap.size)
  generalize hAe : va_A ([(ou, .inl (G.2.2.2, 1, .inr (.inl fo)))] ++ (wRR G ad o sg)) s.heap.size = A at hD hZ0 ⊢
  have hZ : Zs A s s.heap := hZ0
  have hA : ∀ q : Nat, s.heap.size ≤ q → A q := fun q h => by rw [← hAe]; exact Or.inr h
  have hS : va_S A s.heap s.heap [] := va_S.rf
  have hx := B.exec
  have hb := B.bytes
  have hr := B.returns
  have hts := atoms_spec (ws := wsL_reservoirPosition) B.pre
  have hown : s.vm.findClass RL = some m.cls := findClass_of_methodNamed B.named
  have hlk := B.notSynchronized
  have CF : CallFix p m c cL_reservoirPosition 5 s _ wsL_reservoirPosition RL := ⟨hx, hb, hml, hown, hts⟩
  have kx0 := hts (.classLink RL 13 "java/lang/IllegalArgumentException") (List.mem_cons_of_mem _ (List.mem_append_left _ (List.mem_append_left _ (List.mem_append_left _ (List.mem_append_left _ (List.mem_append_left _ (List.mem_append_left _ (List.mem_of_getElem? (i := 0) rfl))))))))
  have htab := vx_table (x := yL_reservoirPosition) B (hts (.codeWith yL_reservoirPosition cL_reservoirPosition 5 (some .int) [(0, 10, 13, 13), (0, 10, 17, 38)]) List.mem_cons_self)
  have hl := lv_entry ([.ref (ad o), .int st, .int sl, .ref ou]) (n := 5) (Nat.le_of_ble_eq_true rfl)
  rw [lg_entry_eq]
  generalize (lg_sl ([.ref (ad o), .int st, .int sl, .ref ou]) ++ List.replicate (5 - (lg_sl ([.ref (ad o), .int st, .int sl, .ref ou])).length) Slot.unset).toArray = ls at hl ⊢
  have hl : lv_has ls 5 [(0, .ref (ad o)), (1, .int st), (2, .int sl), (3, .ref ou)] := hl
  refine lv_aload_n hx hb dL_reservoirPosition_0 rfl (lv_at hl 3 rfl) ?_
  refine lv_iconst (v := 0) hx hb dL_reservoirPosition_1 (by decide) ?_
  refine lv_aload_n hx hb dL_reservoirPosition_2 rfl (lv_at hl 0 rfl) ?_
  refine lv_iload_n hx hb dL_reservoirPosition_3 rfl (lv_at hl 1 rfl) ?_
  refine lv_iload_n hx hb dL_reservoirPosition_4 rfl (lv_at hl 2 rfl) ?_
  have hP9 := hP
  have hD9 := hD
  rw [← List.append_nil (wRR G ad o sg)] at hP9 hD9
  refine noV [(ou, .inl (G.2.2.2, 1, .inr (.inl fo)))] (wRR G ad o sg) [] (wRR G ad o sg) (As := [.int st, .int sl]) (rest := [.int 0, .ref ou]) CF (kn_X6_reservoirPosition l hl0 G ad o sg st sl hk) (cwV 2 hts gL_reservoirPosition_X6_reservoirPosition rfl rfl rfl (by decide +kernel) ⟨Nat.le_of_ble_eq_true rfl, Nat.le_of_ble_eq_true rfl⟩) hP9 hD9 hS hA hY hZ rfl rfl (fst_RR _ _ _ _ _) rfl hl.1 rfl (lv_room (Nat.le_of_ble_eq_true rfl)) dL_reservoirPosition_5 ⟨Nat.le_of_ble_eq_true rfl, Nat.le_of_ble_eq_true rfl⟩ (fun ce q9 H locs hP hD hS hce hcv hcl => ?_)
  rw [List.append_nil] at hP hD
  have hP : va_P G.1 vwCl ([(ou, .inl (G.2.2.2, 1, .inr (.inl fo)))] ++ (wRR G ad o sg)) H := hP
  have hD : va_D A ([(ou, .inl (G.2.2.2, 1, .inr (.inl fo)))] ++ (wRR G ad o sg)) := hD
  refine vx_catch (own := RL) (name := "java/lang/IllegalArgumentException") hown [] ⟨0, 10, 13, 13⟩ [⟨0, 10, 17, 38⟩] htab (fun z hz => nomatch hz) rfl (by decide) kx0 (va_Nw.use rfl (hY.2.1 (.castable "java/lang/IllegalArgumentException" "java/lang/IllegalArgumentException") (List.mem_of_getElem? (i := 39) rfl))) hce hcv hcl ?_
  refine lv_astore (lv' := [(4, .ref q9), (0, .ref (ad o)), (1, .int st), (2, .int sl), (3, .ref ou)]) hx hb dL_reservoirPosition_13 hl (by decide) rfl (fun ls hl => ?_)
  refine lv_iconst (v := 1) hx hb dL_reservoirPosition_15 (by decide) ?_
  exact ca_iret hx hb hr hlk hS hP (by first | with_reducible rfl | (simp only [sld_eq, ↓reduceIte]; done)) (by first | with_reducible rfl | (simp only [sld_eq, ↓reduceIte]; done)) dL_reservoirPosition_16

set_option maxHeartbeats 4000000 in
set_option maxRecDepth 100000 in
theorem k2_L_reservoirPosition (l : Launch) (hl0 : l.stackTraces = false) (G : GT) (ad : Nat → Nat) (o : Nat) (sg : RRT) (st sl : Int32) (ou : Nat) (fo : Nat → Int64) (h0 : okA st 0 1) (hs : ¬ okP sl (resFilled (rrStr sg st).2.2.2.1)) : Ca l yL_reservoirPosition wsL_reservoirPosition { frames := 8, cells := 1, slots := 6, locals := 145 } G ([(ou, .inl (G.2.2.2, 1, .inr (.inl fo)))] ++ (wRR G ad o sg)) ([(ou, .inl (G.2.2.2, 1, .inr (.inl fo)))] ++ (wRR G ad o sg)) [.ref (ad o), .int st, .int sl, .ref ou] (some (.int 2)) := by
  intro sz
  refine met_ofWH (cc := cL_reservoirPosition) (maxL := 5) (ret := (some .int)) (hh := [(0, 10, 13, 13), (0, 10, 17, 38)]) (by decide) rfl ?_
  intro p e s m args below meth c s₁ B hml hv
  obtain ⟨rfl, hsz, hP, hY, hD0, hZ0⟩ := hv
  subst hsz
  have hD := hD0.self (sz := s.heap.size)
  generalize hAe : va_A ([(ou, .inl (G.2.2.2, 1, .inr (.inl fo)))] ++ (wRR G ad o sg)) s.heap.size = A at hD hZ0 ⊢
  have hZ : Zs A s s.heap := hZ0
  have hA : ∀ q : Nat, s.heap.size ≤ q → A q := fun q h => by rw [← hAe]; exact Or.inr h
  have hS : va_S A s.heap s.heap [] := va_S.rf
  have hx := B.exec
  have hb := B.bytes
  have hr := B.returns
  have hts := atoms_spec (ws := wsL_reservoirPosition) B.pre
  have hown : s.vm.findClass RL = some m.cls := findClass_of_methodNamed B.named
  have hlk := B.notSynchronized
  have CF : CallFix p m c cL_reservoirPosition 5 s _ wsL_reservoirPosition RL := ⟨hx, hb, hml, hown, hts⟩
  have kx1 := hts (.classLink RL 38 "java/lang/IndexOutOfBoundsException") (List.mem_cons_of_mem _ (List.mem_append_left _ (List.mem_append_left _ (List.mem_append_left _ (List.mem_append_left _ (List.mem_append_left _ (List.mem_append_left _ (List.mem_of_getElem? (i := 1) rfl))))))))
  have kx0 := hts (.classLink RL 13 "java/lang/IllegalArgumentException") (List.mem_cons_of_mem _ (List.mem_append_left _ (List.mem_append_left _ (List.mem_append_left _ (List.mem_append_left _ (List.mem_append_left _ (List.mem_append_left _ (List.mem_of_getElem? (i := 0) rfl))))))))
  have htab := vx_table (x := yL_reservoirPosition) B (hts (.codeWith yL_reservoirPosition cL_reservoirPosition 5 (some .int) [(0, 10, 13, 13), (0, 10, 17, 38)]) List.mem_cons_self)
  have hl := lv_entry ([.ref (ad o), .int st, .int sl, .ref ou]) (n := 5) (Nat.le_of_ble_eq_true rfl)
  rw [lg_entry_eq]
  generalize (lg_sl ([.ref (ad o), .int st, .int sl, .ref ou]) ++ List.replicate (5 - (lg_sl ([.ref (ad o), .int st, .int sl, .ref ou])).length) Slot.unset).toArray = ls at hl ⊢
  have hl : lv_has ls 5 [(0, .ref (ad o)), (1, .int st), (2, .int sl), (3, .ref ou)] := hl
  refine lv_aload_n hx hb dL_reservoirPosition_0 rfl (lv_at hl 3 rfl) ?_
  refine lv_iconst (v := 0) hx hb dL_reservoirPosition_1 (by decide) ?_
  refine lv_aload_n hx hb dL_reservoirPosition_2 rfl (lv_at hl 0 rfl) ?_
  refine lv_iload_n hx hb dL_reservoirPosition_3 rfl (lv_at hl 1 rfl) ?_
  refine lv_iload_n hx hb dL_reservoirPosition_4 rfl (lv_at hl 2 rfl) ?_
  have hP9 := hP
  have hD9 := hD
  rw [← List.append_nil (wRR G ad o sg)] at hP9 hD9
  refine noV [(ou, .inl (G.2.2.2, 1, .inr (.inl fo)))] (wRR G ad o sg) [] (wRR G ad o sg) (As := [.int st, .int sl]) (rest := [.int 0, .ref ou]) CF (kn2_X6_reservoirPosition l hl0 G ad o sg st sl h0 hs) (cwV 2 hts gL_reservoirPosition_X6_reservoirPosition rfl rfl rfl (by decide +kernel) ⟨Nat.le_of_ble_eq_true rfl, Nat.le_of_ble_eq_true rfl⟩) hP9 hD9 hS hA hY hZ rfl rfl (fst_RR _ _ _ _ _) rfl hl.1 rfl (lv_room (Nat.le_of_ble_eq_true rfl)) dL_reservoirPosition_5 ⟨Nat.le_of_ble_eq_true rfl, Nat.le_of_ble_eq_true rfl⟩ (fun ce q9 H locs hP hD hS hce hcv hcl => ?_)
  rw [List.append_nil] at hP hD
  have hP : va_P G.1 vwCl ([(ou, .inl (G.2.2.2, 1, .inr (.inl fo)))] ++ (wRR G ad o sg)) H := hP
  have hD : va_D A ([(ou, .inl (G.2.2.2, 1, .inr (.inl fo)))] ++ (wRR G ad o sg)) := hD
  refine vx_catch (own := RL) (name := "java/lang/IndexOutOfBoundsException") hown [⟨0, 10, 13, 13⟩] ⟨0, 10, 17, 38⟩ [] htab (fun z hz => by rcases List.mem_singleton.mp hz with rfl; exact Or.inr ⟨by decide, _, kx0, hY.2.2.1 ("java/lang/IndexOutOfBoundsException", "java/lang/IllegalArgumentException") (List.mem_of_getElem? (i := 1) rfl)⟩) rfl (by decide) kx1 (va_Nw.use rfl (hY.2.1 (.castable "java/lang/IndexOutOfBoundsException" "java/lang/IndexOutOfBoundsException") (List.mem_of_getElem? (i := 41) rfl))) hce hcv hcl ?_
  refine lv_astore (lv' := [(4, .ref q9), (0, .ref (ad o)), (1, .int st), (2, .int sl), (3, .ref ou)]) hx hb dL_reservoirPosition_17 hl (by decide) rfl (fun ls hl => ?_)
  refine lv_iconst (v := 2) hx hb dL_reservoirPosition_19 (by decide) ?_
  exact ca_iret hx hb hr hlk hS hP (by first | with_reducible rfl | (simp only [sld_eq, ↓reduceIte]; done)) (by first | with_reducible rfl | (simp only [sld_eq, ↓reduceIte]; done)) dL_reservoirPosition_20
