set_option maxHeartbeats 4000000 in
set_option maxRecDepth 100000 in
theorem k_L_begun (l : Launch) (G : GT) (ad : Nat → Nat) (o : Nat) (sg : RRT) (k2 w2 : Int32) (h0 : okA k2 2 16) (h1 : okA w2 1 64) : Ck 0 1 6 l yL_begun wsL_begun { frames := 8, cells := 1, slots := 6, locals := 144 } G (wRR G ad o sg) (wRR G ad o (rrStart k2 w2 sg)) [.ref (ad o), .int k2, .int w2] (some (.int 0)) := by
  intro sz
  refine met_ofWH (cc := cL_begun) (maxL := 4) (ret := (some .int)) (hh := [(0, 6, 9, 13)]) (by decide) rfl ?_
  intro p e s m args below meth c s₁ B hml hv
  obtain ⟨rfl, hsz, hP, hY, hD0, hZ0⟩ := hv
  subst hsz
  have hD := hD0.self (sz := s.heap.size)
  generalize hAe : va_A (wRR G ad o sg) s.heap.size = A at hD hZ0 ⊢
  have hZ : Zs A s s.heap := hZ0
  have hA : ∀ q : Nat, s.heap.size ≤ q → A q := fun q h => by rw [← hAe]; exact Or.inr h
  have hS : va_S A s.heap s.heap [] := va_S.rf
  have hx := B.exec
  have hb := B.bytes
  have hr := B.returns
  have hts := atoms_spec (ws := wsL_begun) B.pre
  have hown : s.vm.findClass RL = some m.cls := findClass_of_methodNamed B.named
  have hlk := B.notSynchronized
  have CF : CallFix p m c cL_begun 4 s _ wsL_begun RL := ⟨hx, hb, hml, hown, hts⟩
  have hl := lv_entry ([.ref (ad o), .int k2, .int w2]) (n := 4) (Nat.le_of_ble_eq_true rfl)
  rw [lg_entry_eq]
  generalize (lg_sl ([.ref (ad o), .int k2, .int w2]) ++ List.replicate (4 - (lg_sl ([.ref (ad o), .int k2, .int w2])).length) Slot.unset).toArray = ls at hl ⊢
  have hl : lv_has ls 4 [(0, .ref (ad o)), (1, .int k2), (2, .int w2)] := hl
  refine lv_aload_n hx hb dL_begun_0 rfl (lv_at hl 0 rfl) ?_
  refine lv_iload_n hx hb dL_begun_1 rfl (lv_at hl 1 rfl) ?_
  refine lv_iload_n hx hb dL_begun_2 rfl (lv_at hl 2 rfl) ?_
  have hP9 := hP
  have hD9 := hD
  rw [← List.append_nil (wRR G ad o sg)] at hP9 hD9
  refine wrV [] (wRR G ad o sg) [] (wRR G ad o (rrStart k2 w2 sg)) (As := [.int k2, .int w2]) (rest := []) CF (k_X6_begin l G ad o sg k2 w2 h0 h1) (cwV 2 hts gL_begun_X6_begin rfl rfl rfl (by decide +kernel) ⟨Nat.le_of_ble_eq_true rfl, Nat.le_of_ble_eq_true rfl⟩) hP9 hD9 hS hA hY rfl rfl (fst_RR _ _ _ _ _) rfl hl.1 rfl (lv_room (Nat.le_of_ble_eq_true rfl)) dL_begun_3 ⟨Nat.zero_le _, Nat.zero_le _⟩ (fun H locs hP hD hS => ?_)
  rw [List.append_nil] at hP hD
  have hP : va_P G.1 vwCl (wRR G ad o (rrStart k2 w2 sg)) H := hP
  have hD : va_D A (wRR G ad o (rrStart k2 w2 sg)) := hD
  refine lv_goto (tgt := 13) hx hb dL_begun_6 (by decide) ?_
  refine lv_iconst (v := 0) hx hb dL_begun_13 (by decide) ?_
  refine W.widen (k := 1) (n := 6) (Nat.zero_le _) (Nat.zero_le _) ?_
  exact ck_iret hx hb hr hlk hS hP hS.1 (by first | with_reducible rfl | (simp only [sld_eq, ↓reduceIte]; done)) (by first | with_reducible rfl | (simp only [sld_eq, ↓reduceIte]; done)) dL_begun_14

set_option maxHeartbeats 4000000 in
set_option maxRecDepth 100000 in
theorem k1_L_begun (l : Launch) (hl0 : l.stackTraces = false) (G : GT) (ad : Nat → Nat) (o : Nat) (sg : RRT) (k2 w2 : Int32) (hk : ¬ (okA k2 2 16 ∧ okA w2 1 64)) : Ck 1 1 6 l yL_begun wsL_begun { frames := 8, cells := 1, slots := 6, locals := 144 } G (wRR G ad o sg) (wRR G ad o sg) [.ref (ad o), .int k2, .int w2] (some (.int (-9999002))) := by
  intro sz
  refine met_ofWH (cc := cL_begun) (maxL := 4) (ret := (some .int)) (hh := [(0, 6, 9, 13)]) (by decide) rfl ?_
  intro p e s m args below meth c s₁ B hml hv
  obtain ⟨rfl, hsz, hP, hY, hD0, hZ0⟩ := hv
  subst hsz
  have hD := hD0.self (sz := s.heap.size)
  generalize hAe : va_A (wRR G ad o sg) s.heap.size = A at hD hZ0 ⊢
  have hZ : Zs A s s.heap := hZ0
  have hA : ∀ q : Nat, s.heap.size ≤ q → A q := fun q h => by rw [← hAe]; exact Or.inr h
  have hS : va_S A s.heap s.heap [] := va_S.rf
  have hx := B.exec
  have hb := B.bytes
  have hr := B.returns
  have hts := atoms_spec (ws := wsL_begun) B.pre
  have hown : s.vm.findClass RL = some m.cls := findClass_of_methodNamed B.named
  have hlk := B.notSynchronized
  have CF : CallFix p m c cL_begun 4 s _ wsL_begun RL := ⟨hx, hb, hml, hown, hts⟩
  have kx0 := hts (.classLink RL 13 "java/lang/IllegalArgumentException") (List.mem_cons_of_mem _ (List.mem_append_left _ (List.mem_append_left _ (List.mem_append_left _ (List.mem_append_left _ (List.mem_append_left _ (List.mem_append_left _ (List.mem_append_left _ (List.mem_append_left _ (List.mem_append_left _ (List.mem_of_getElem? (i := 0) rfl)))))))))))
  have htab := vx_table (x := yL_begun) B (hts (.codeWith yL_begun cL_begun 4 (some .int) [(0, 6, 9, 13)]) List.mem_cons_self)
  have kc15 := hts (.constant RL 15 (-9999002)) (List.mem_cons_of_mem _ (List.mem_append_left _ (List.mem_append_left _ (List.mem_append_left _ (List.mem_append_left _ (List.mem_append_left _ (List.mem_append_left _ (List.mem_append_left _ (List.mem_append_left _ (List.mem_append_left _ (List.mem_of_getElem? (i := 1) rfl)))))))))))
  have hl := lv_entry ([.ref (ad o), .int k2, .int w2]) (n := 4) (Nat.le_of_ble_eq_true rfl)
  rw [lg_entry_eq]
  generalize (lg_sl ([.ref (ad o), .int k2, .int w2]) ++ List.replicate (4 - (lg_sl ([.ref (ad o), .int k2, .int w2])).length) Slot.unset).toArray = ls at hl ⊢
  have hl : lv_has ls 4 [(0, .ref (ad o)), (1, .int k2), (2, .int w2)] := hl
  refine lv_aload_n hx hb dL_begun_0 rfl (lv_at hl 0 rfl) ?_
  refine lv_iload_n hx hb dL_begun_1 rfl (lv_at hl 1 rfl) ?_
  refine lv_iload_n hx hb dL_begun_2 rfl (lv_at hl 2 rfl) ?_
  have hP9 := hP
  have hD9 := hD
  rw [← List.append_nil (wRR G ad o sg)] at hP9 hD9
  refine noV [] (wRR G ad o sg) [] (wRR G ad o sg) (As := [.int k2, .int w2]) (rest := []) CF (kn_X6_begin l hl0 G ad o sg k2 w2 hk) (cwV 2 hts gL_begun_X6_begin rfl rfl rfl (by decide +kernel) ⟨Nat.le_of_ble_eq_true rfl, Nat.le_of_ble_eq_true rfl⟩) hP9 hD9 hS hA hY hZ rfl rfl (fst_RR _ _ _ _ _) rfl hl.1 rfl (lv_room (Nat.le_of_ble_eq_true rfl)) dL_begun_3 ⟨Nat.le_of_ble_eq_true rfl, Nat.le_of_ble_eq_true rfl⟩ (fun ce q9 H locs hP hD hS hce hcv hcl hgr => ?_)
  rw [List.append_nil] at hP hD
  have hP : va_P G.1 vwCl (wRR G ad o sg) H := hP
  have hD : va_D A (wRR G ad o sg) := hD
  refine vx_catch (own := RL) (name := "java/lang/IllegalArgumentException") hown [] ⟨0, 6, 9, 13⟩ [] htab (fun z hz => nomatch hz) rfl (by decide) kx0 (va_Nw.use rfl (hY.2.1 (.castable "java/lang/IllegalArgumentException" "java/lang/IllegalArgumentException") (List.mem_of_getElem? (i := 39) rfl))) hce hcv hcl ?_
  refine lv_astore_n (lv' := [(3, .ref q9), (0, .ref (ad o)), (1, .int k2), (2, .int w2)]) hx hb dL_begun_9 rfl hl (by decide) rfl (fun ls hl => ?_)
  refine lv_ldc hx hb hown kc15 dL_begun_10 ?_
  exact ck_iret hx hb hr hlk hS hP hgr.1 (by first | with_reducible rfl | (simp only [sld_eq, ↓reduceIte]; done)) (by first | with_reducible rfl | (simp only [sld_eq, ↓reduceIte]; done)) dL_begun_12

set_option maxHeartbeats 4000000 in
set_option maxRecDepth 100000 in
theorem k_L_offered (l : Launch) (G : GT) (ad : Nat → Nat) (o : Nat) (sg : RRT) (st ia wa gr fa sa : Int32) (h0 : okA st 0 1) (h1 : okA ia 0 1000000) (h2 : okA wa 1 1000000) (h3 : okA gr 0 3) (h4 : okA fa 0 2147483647) (h5 : okA sa 0 2147483647) (hs : ¬ 300 ≤ (rrStr sg st).2.2.1) : Ck 0 1 6 l yL_offered wsL_offered { frames := 8, cells := 1, slots := 6, locals := 149 } G (wRR G ad o sg) (wRR G ad o (rrSet sg st (strTake (rrStr sg st) ia wa gr fa sa))) [.ref (ad o), .int st, .int ia, .int wa, .int gr, .int fa, .int sa] (some (.int ((strTake (rrStr sg st) ia wa gr fa sa).2.2.1))) := by
  intro sz
  refine met_ofWH (cc := cL_offered) (maxL := 8) (ret := (some .int)) (hh := [(0, 13, 14, 13), (0, 13, 19, 20)]) (by decide) rfl ?_
  intro p e s m args below meth c s₁ B hml hv
  obtain ⟨rfl, hsz, hP, hY, hD0, hZ0⟩ := hv
  subst hsz
  have hD := hD0.self (sz := s.heap.size)
  generalize hAe : va_A (wRR G ad o sg) s.heap.size = A at hD hZ0 ⊢
  have hZ : Zs A s s.heap := hZ0
  have hA : ∀ q : Nat, s.heap.size ≤ q → A q := fun q h => by rw [← hAe]; exact Or.inr h
  have hS : va_S A s.heap s.heap [] := va_S.rf
  have hx := B.exec
  have hb := B.bytes
  have hr := B.returns
  have hts := atoms_spec (ws := wsL_offered) B.pre
  have hown : s.vm.findClass RL = some m.cls := findClass_of_methodNamed B.named
  have hlk := B.notSynchronized
  have CF : CallFix p m c cL_offered 8 s _ wsL_offered RL := ⟨hx, hb, hml, hown, hts⟩
  have hl := lv_entry ([.ref (ad o), .int st, .int ia, .int wa, .int gr, .int fa, .int sa]) (n := 8) (Nat.le_of_ble_eq_true rfl)
  rw [lg_entry_eq]
  generalize (lg_sl ([.ref (ad o), .int st, .int ia, .int wa, .int gr, .int fa, .int sa]) ++ List.replicate (8 - (lg_sl ([.ref (ad o), .int st, .int ia, .int wa, .int gr, .int fa, .int sa])).length) Slot.unset).toArray = ls at hl ⊢
  have hl : lv_has ls 8 [(0, .ref (ad o)), (1, .int st), (2, .int ia), (3, .int wa), (4, .int gr), (5, .int fa), (6, .int sa)] := hl
  refine lv_aload_n hx hb dL_offered_0 rfl (lv_at hl 0 rfl) ?_
  refine lv_iload_n hx hb dL_offered_1 rfl (lv_at hl 1 rfl) ?_
  refine lv_iload_n hx hb dL_offered_2 rfl (lv_at hl 2 rfl) ?_
  refine lv_iload_n hx hb dL_offered_3 rfl (lv_at hl 3 rfl) ?_
  refine lv_iload hx hb dL_offered_4 (lv_at hl 4 rfl) ?_
  refine lv_iload hx hb dL_offered_6 (lv_at hl 5 rfl) ?_
  refine lv_iload hx hb dL_offered_8 (lv_at hl 6 rfl) ?_
  have hP9 := hP
  have hD9 := hD
  rw [← List.append_nil (wRR G ad o sg)] at hP9 hD9
  refine wrV [] (wRR G ad o sg) [] (wRR G ad o (rrSet sg st (strTake (rrStr sg st) ia wa gr fa sa))) (As := [.int st, .int ia, .int wa, .int gr, .int fa, .int sa]) (rest := []) CF (k_X6_offer l G ad o sg st ia wa gr fa sa h0 h1 h2 h3 h4 h5 hs) (cwV 6 hts gL_offered_X6_offer rfl rfl rfl (by decide +kernel) ⟨Nat.le_of_ble_eq_true rfl, Nat.le_of_ble_eq_true rfl⟩) hP9 hD9 hS hA hY rfl rfl (fst_RR _ _ _ _ _) rfl hl.1 rfl (lv_room (Nat.le_of_ble_eq_true rfl)) dL_offered_10 ⟨Nat.zero_le _, Nat.zero_le _⟩ (fun H locs hP hD hS => ?_)
  rw [List.append_nil] at hP hD
  have hP : va_P G.1 vwCl (wRR G ad o (rrSet sg st (strTake (rrStr sg st) ia wa gr fa sa))) H := hP
  have hD : va_D A (wRR G ad o (rrSet sg st (strTake (rrStr sg st) ia wa gr fa sa))) := hD
  refine W.widen (k := 1) (n := 6) (Nat.zero_le _) (Nat.zero_le _) ?_
  exact ck_iret hx hb hr hlk hS hP hS.1 (by first | with_reducible rfl | (simp only [sld_eq, ↓reduceIte]; done)) (by first | with_reducible rfl | (simp only [sld_eq, ↓reduceIte]; done)) dL_offered_13

set_option maxHeartbeats 4000000 in
set_option maxRecDepth 100000 in
theorem k1_L_offered (l : Launch) (hl0 : l.stackTraces = false) (G : GT) (ad : Nat → Nat) (o : Nat) (sg : RRT) (st ia wa gr fa sa : Int32) (hk : ¬ (okA st 0 1 ∧ okA ia 0 1000000 ∧ okA wa 1 1000000 ∧ okA gr 0 3 ∧ okA fa 0 2147483647 ∧ okA sa 0 2147483647)) : Ck 1 1 6 l yL_offered wsL_offered { frames := 8, cells := 1, slots := 6, locals := 149 } G (wRR G ad o sg) (wRR G ad o sg) [.ref (ad o), .int st, .int ia, .int wa, .int gr, .int fa, .int sa] (some (.int (-9999002))) := by
  intro sz
  refine met_ofWH (cc := cL_offered) (maxL := 8) (ret := (some .int)) (hh := [(0, 13, 14, 13), (0, 13, 19, 20)]) (by decide) rfl ?_
  intro p e s m args below meth c s₁ B hml hv
  obtain ⟨rfl, hsz, hP, hY, hD0, hZ0⟩ := hv
  subst hsz
  have hD := hD0.self (sz := s.heap.size)
  generalize hAe : va_A (wRR G ad o sg) s.heap.size = A at hD hZ0 ⊢
  have hZ : Zs A s s.heap := hZ0
  have hA : ∀ q : Nat, s.heap.size ≤ q → A q := fun q h => by rw [← hAe]; exact Or.inr h
  have hS : va_S A s.heap s.heap [] := va_S.rf
  have hx := B.exec
  have hb := B.bytes
  have hr := B.returns
  have hts := atoms_spec (ws := wsL_offered) B.pre
  have hown : s.vm.findClass RL = some m.cls := findClass_of_methodNamed B.named
  have hlk := B.notSynchronized
  have CF : CallFix p m c cL_offered 8 s _ wsL_offered RL := ⟨hx, hb, hml, hown, hts⟩
  have kx0 := hts (.classLink RL 13 "java/lang/IllegalArgumentException") (List.mem_cons_of_mem _ (List.mem_append_left _ (List.mem_append_left _ (List.mem_append_left _ (List.mem_append_left _ (List.mem_append_left _ (List.mem_append_left _ (List.mem_append_left _ (List.mem_append_left _ (List.mem_append_left _ (List.mem_append_left _ (List.mem_of_getElem? (i := 0) rfl))))))))))))
  have htab := vx_table (x := yL_offered) B (hts (.codeWith yL_offered cL_offered 8 (some .int) [(0, 13, 14, 13), (0, 13, 19, 20)]) List.mem_cons_self)
  have kc15 := hts (.constant RL 15 (-9999002)) (List.mem_cons_of_mem _ (List.mem_append_left _ (List.mem_append_left _ (List.mem_append_left _ (List.mem_append_left _ (List.mem_append_left _ (List.mem_append_left _ (List.mem_append_left _ (List.mem_append_left _ (List.mem_append_left _ (List.mem_append_left _ (List.mem_of_getElem? (i := 2) rfl))))))))))))
  have hl := lv_entry ([.ref (ad o), .int st, .int ia, .int wa, .int gr, .int fa, .int sa]) (n := 8) (Nat.le_of_ble_eq_true rfl)
  rw [lg_entry_eq]
  generalize (lg_sl ([.ref (ad o), .int st, .int ia, .int wa, .int gr, .int fa, .int sa]) ++ List.replicate (8 - (lg_sl ([.ref (ad o), .int st, .int ia, .int wa, .int gr, .int fa, .int sa])).length) Slot.unset).toArray = ls at hl ⊢
  have hl : lv_has ls 8 [(0, .ref (ad o)), (1, .int st), (2, .int ia), (3, .int wa), (4, .int gr), (5, .int fa), (6, .int sa)] := hl
  refine lv_aload_n hx hb dL_offered_0 rfl (lv_at hl 0 rfl) ?_
  refine lv_iload_n hx hb dL_offered_1 rfl (lv_at hl 1 rfl) ?_
  refine lv_iload_n hx hb dL_offered_2 rfl (lv_at hl 2 rfl) ?_
  refine lv_iload_n hx hb dL_offered_3 rfl (lv_at hl 3 rfl) ?_
  refine lv_iload hx hb dL_offered_4 (lv_at hl 4 rfl) ?_
  refine lv_iload hx hb dL_offered_6 (lv_at hl 5 rfl) ?_
  refine lv_iload hx hb dL_offered_8 (lv_at hl 6 rfl) ?_
  have hP9 := hP
  have hD9 := hD
  rw [← List.append_nil (wRR G ad o sg)] at hP9 hD9
  refine noV [] (wRR G ad o sg) [] (wRR G ad o sg) (As := [.int st, .int ia, .int wa, .int gr, .int fa, .int sa]) (rest := []) CF (kn_X6_offer l hl0 G ad o sg st ia wa gr fa sa hk) (cwV 6 hts gL_offered_X6_offer rfl rfl rfl (by decide +kernel) ⟨Nat.le_of_ble_eq_true rfl, Nat.le_of_ble_eq_true rfl⟩) hP9 hD9 hS hA hY hZ rfl rfl (fst_RR _ _ _ _ _) rfl hl.1 rfl (lv_room (Nat.le_of_ble_eq_true rfl)) dL_offered_10 ⟨Nat.le_of_ble_eq_true rfl, Nat.le_of_ble_eq_true rfl⟩ (fun ce q9 H locs hP hD hS hce hcv hcl hgr => ?_)
  rw [List.append_nil] at hP hD
  have hP : va_P G.1 vwCl (wRR G ad o sg) H := hP
  have hD : va_D A (wRR G ad o sg) := hD
  refine vx_catch (own := RL) (name := "java/lang/IllegalArgumentException") hown [] ⟨0, 13, 14, 13⟩ [⟨0, 13, 19, 20⟩] htab (fun z hz => nomatch hz) rfl (by decide) kx0 (va_Nw.use rfl (hY.2.1 (.castable "java/lang/IllegalArgumentException" "java/lang/IllegalArgumentException") (List.mem_of_getElem? (i := 39) rfl))) hce hcv hcl ?_
  refine lv_astore (lv' := [(7, .ref q9), (0, .ref (ad o)), (1, .int st), (2, .int ia), (3, .int wa), (4, .int gr), (5, .int fa), (6, .int sa)]) hx hb dL_offered_14 hl (by decide) rfl (fun ls hl => ?_)
  refine lv_ldc hx hb hown kc15 dL_offered_16 ?_
  exact ck_iret hx hb hr hlk hS hP hgr.1 (by first | with_reducible rfl | (simp only [sld_eq, ↓reduceIte]; done)) (by first | with_reducible rfl | (simp only [sld_eq, ↓reduceIte]; done)) dL_offered_18

set_option maxHeartbeats 4000000 in
set_option maxRecDepth 100000 in
theorem k1_L_cleared (l : Launch) (hl0 : l.stackTraces = false) (G : GT) (ad : Nat → Nat) (o : Nat) (sg : RRT) (st : Int32) (hk : ¬ (okA st 0 1)) : Ck 1 1 6 l yL_cleared wsL_cleared { frames := 8, cells := 1, slots := 6, locals := 145 } G (wRR G ad o sg) (wRR G ad o sg) [.ref (ad o), .int st] (some (.int (-9999002))) := by
  intro sz
  refine met_ofWH (cc := cL_cleared) (maxL := 3) (ret := (some .int)) (hh := [(0, 5, 6, 13)]) (by decide) rfl ?_
  intro p e s m args below meth c s₁ B hml hv
  obtain ⟨rfl, hsz, hP, hY, hD0, hZ0⟩ := hv
  subst hsz
  have hD := hD0.self (sz := s.heap.size)
  generalize hAe : va_A (wRR G ad o sg) s.heap.size = A at hD hZ0 ⊢
  have hZ : Zs A s s.heap := hZ0
  have hA : ∀ q : Nat, s.heap.size ≤ q → A q := fun q h => by rw [← hAe]; exact Or.inr h
  have hS : va_S A s.heap s.heap [] := va_S.rf
  have hx := B.exec
  have hb := B.bytes
  have hr := B.returns
  have hts := atoms_spec (ws := wsL_cleared) B.pre
  have hown : s.vm.findClass RL = some m.cls := findClass_of_methodNamed B.named
  have hlk := B.notSynchronized
  have CF : CallFix p m c cL_cleared 3 s _ wsL_cleared RL := ⟨hx, hb, hml, hown, hts⟩
  have kx0 := hts (.classLink RL 13 "java/lang/IllegalArgumentException") (List.mem_cons_of_mem _ (List.mem_append_left _ (List.mem_append_left _ (List.mem_append_left _ (List.mem_append_left _ (List.mem_append_left _ (List.mem_append_left _ (List.mem_append_left _ (List.mem_append_left _ (List.mem_append_left _ (List.mem_of_getElem? (i := 0) rfl)))))))))))
  have htab := vx_table (x := yL_cleared) B (hts (.codeWith yL_cleared cL_cleared 3 (some .int) [(0, 5, 6, 13)]) List.mem_cons_self)
  have kc15 := hts (.constant RL 15 (-9999002)) (List.mem_cons_of_mem _ (List.mem_append_left _ (List.mem_append_left _ (List.mem_append_left _ (List.mem_append_left _ (List.mem_append_left _ (List.mem_append_left _ (List.mem_append_left _ (List.mem_append_left _ (List.mem_append_left _ (List.mem_of_getElem? (i := 1) rfl)))))))))))
  have hl := lv_entry ([.ref (ad o), .int st]) (n := 3) (Nat.le_of_ble_eq_true rfl)
  rw [lg_entry_eq]
  generalize (lg_sl ([.ref (ad o), .int st]) ++ List.replicate (3 - (lg_sl ([.ref (ad o), .int st])).length) Slot.unset).toArray = ls at hl ⊢
  have hl : lv_has ls 3 [(0, .ref (ad o)), (1, .int st)] := hl
  refine lv_aload_n hx hb dL_cleared_0 rfl (lv_at hl 0 rfl) ?_
  refine lv_iload_n hx hb dL_cleared_1 rfl (lv_at hl 1 rfl) ?_
  have hP9 := hP
  have hD9 := hD
  rw [← List.append_nil (wRR G ad o sg)] at hP9 hD9
  refine noV [] (wRR G ad o sg) [] (wRR G ad o sg) (As := [.int st]) (rest := []) CF (kn_X6_clear l hl0 G ad o sg st hk) (cwV 1 hts gL_cleared_X6_clear rfl rfl rfl (by decide +kernel) ⟨Nat.le_of_ble_eq_true rfl, Nat.le_of_ble_eq_true rfl⟩) hP9 hD9 hS hA hY hZ rfl rfl (fst_RR _ _ _ _ _) rfl hl.1 rfl (lv_room (Nat.le_of_ble_eq_true rfl)) dL_cleared_2 ⟨Nat.le_of_ble_eq_true rfl, Nat.le_of_ble_eq_true rfl⟩ (fun ce q9 H locs hP hD hS hce hcv hcl hgr => ?_)
  rw [List.append_nil] at hP hD
  have hP : va_P G.1 vwCl (wRR G ad o sg) H := hP
  have hD : va_D A (wRR G ad o sg) := hD
  refine vx_catch (own := RL) (name := "java/lang/IllegalArgumentException") hown [] ⟨0, 5, 6, 13⟩ [] htab (fun z hz => nomatch hz) rfl (by decide) kx0 (va_Nw.use rfl (hY.2.1 (.castable "java/lang/IllegalArgumentException" "java/lang/IllegalArgumentException") (List.mem_of_getElem? (i := 39) rfl))) hce hcv hcl ?_
  refine lv_astore_n (lv' := [(2, .ref q9), (0, .ref (ad o)), (1, .int st)]) hx hb dL_cleared_6 rfl hl (by decide) rfl (fun ls hl => ?_)
  refine lv_ldc hx hb hown kc15 dL_cleared_7 ?_
  exact ck_iret hx hb hr hlk hS hP hgr.1 (by first | with_reducible rfl | (simp only [sld_eq, ↓reduceIte]; done)) (by first | with_reducible rfl | (simp only [sld_eq, ↓reduceIte]; done)) dL_cleared_9

set_option maxHeartbeats 4000000 in
set_option maxRecDepth 100000 in
theorem k_L_offers (l : Launch) (G : GT) (ad : Nat → Nat) (o : Nat) (sg : RRT) (st : Int32) (h0 : okA st 0 2) : Ck 0 1 6 l yL_offers wsL_offers { frames := 8, cells := 1, slots := 6, locals := 143 } G (wRR G ad o sg) (wRR G ad o sg) [.ref (ad o), .int st] (some (.int (if st = 2 then sg.2.1.2.2.1 + sg.2.2.1.2.2.1 else (rrStr sg st).2.2.1))) := by
  intro sz
  refine met_ofWH (cc := cL_offers) (maxL := 3) (ret := (some .int)) (hh := [(0, 5, 6, 13)]) (by decide) rfl ?_
  intro p e s m args below meth c s₁ B hml hv
  obtain ⟨rfl, hsz, hP, hY, hD0, hZ0⟩ := hv
  subst hsz
  have hD := hD0.self (sz := s.heap.size)
  generalize hAe : va_A (wRR G ad o sg) s.heap.size = A at hD hZ0 ⊢
  have hZ : Zs A s s.heap := hZ0
  have hA : ∀ q : Nat, s.heap.size ≤ q → A q := fun q h => by rw [← hAe]; exact Or.inr h
  have hS : va_S A s.heap s.heap [] := va_S.rf
  have hx := B.exec
  have hb := B.bytes
  have hr := B.returns
  have hts := atoms_spec (ws := wsL_offers) B.pre
  have hown : s.vm.findClass RL = some m.cls := findClass_of_methodNamed B.named
  have hlk := B.notSynchronized
  have CF : CallFix p m c cL_offers 3 s _ wsL_offers RL := ⟨hx, hb, hml, hown, hts⟩
  have hl := lv_entry ([.ref (ad o), .int st]) (n := 3) (Nat.le_of_ble_eq_true rfl)
  rw [lg_entry_eq]
  generalize (lg_sl ([.ref (ad o), .int st]) ++ List.replicate (3 - (lg_sl ([.ref (ad o), .int st])).length) Slot.unset).toArray = ls at hl ⊢
  have hl : lv_has ls 3 [(0, .ref (ad o)), (1, .int st)] := hl
  refine lv_aload_n hx hb dL_offers_0 rfl (lv_at hl 0 rfl) ?_
  refine lv_iload_n hx hb dL_offers_1 rfl (lv_at hl 1 rfl) ?_
  refine rdV (w0 := (wRR G ad o sg)) (As := [.int st]) (rest := []) CF (k_X6_offers l G ad o sg st h0) (cwV 1 hts gL_offers_X6_offers rfl rfl rfl (by decide +kernel) ⟨Nat.le_of_ble_eq_true rfl, Nat.le_of_ble_eq_true rfl⟩) hP hY rfl rfl rfl hl.1 rfl (lv_room (Nat.le_of_ble_eq_true rfl)) dL_offers_2 ⟨Nat.zero_le _, Nat.zero_le _⟩ ?_
  refine W.widen (k := 1) (n := 6) (Nat.zero_le _) (Nat.zero_le _) ?_
  exact ck_iret hx hb hr hlk hS hP hS.1 (by first | with_reducible rfl | (simp only [sld_eq, ↓reduceIte]; done)) (by first | with_reducible rfl | (simp only [sld_eq, ↓reduceIte]; done)) dL_offers_5

set_option maxHeartbeats 4000000 in
set_option maxRecDepth 100000 in
theorem k1_L_offers (l : Launch) (hl0 : l.stackTraces = false) (G : GT) (ad : Nat → Nat) (o : Nat) (sg : RRT) (st : Int32) (hk : ¬ (okA st 0 2)) : Ck 1 1 6 l yL_offers wsL_offers { frames := 8, cells := 1, slots := 6, locals := 143 } G (wRR G ad o sg) (wRR G ad o sg) [.ref (ad o), .int st] (some (.int (-9999002))) := by
  intro sz
  refine met_ofWH (cc := cL_offers) (maxL := 3) (ret := (some .int)) (hh := [(0, 5, 6, 13)]) (by decide) rfl ?_
  intro p e s m args below meth c s₁ B hml hv
  obtain ⟨rfl, hsz, hP, hY, hD0, hZ0⟩ := hv
  subst hsz
  have hD := hD0.self (sz := s.heap.size)
  generalize hAe : va_A (wRR G ad o sg) s.heap.size = A at hD hZ0 ⊢
  have hZ : Zs A s s.heap := hZ0
  have hA : ∀ q : Nat, s.heap.size ≤ q → A q := fun q h => by rw [← hAe]; exact Or.inr h
  have hS : va_S A s.heap s.heap [] := va_S.rf
  have hx := B.exec
  have hb := B.bytes
  have hr := B.returns
  have hts := atoms_spec (ws := wsL_offers) B.pre
  have hown : s.vm.findClass RL = some m.cls := findClass_of_methodNamed B.named
  have hlk := B.notSynchronized
  have CF : CallFix p m c cL_offers 3 s _ wsL_offers RL := ⟨hx, hb, hml, hown, hts⟩
  have kx0 := hts (.classLink RL 13 "java/lang/IllegalArgumentException") (List.mem_cons_of_mem _ (List.mem_append_left _ (List.mem_append_left _ (List.mem_append_left _ (List.mem_of_getElem? (i := 0) rfl)))))
  have htab := vx_table (x := yL_offers) B (hts (.codeWith yL_offers cL_offers 3 (some .int) [(0, 5, 6, 13)]) List.mem_cons_self)
  have kc15 := hts (.constant RL 15 (-9999002)) (List.mem_cons_of_mem _ (List.mem_append_left _ (List.mem_append_left _ (List.mem_append_left _ (List.mem_of_getElem? (i := 1) rfl)))))
  have hl := lv_entry ([.ref (ad o), .int st]) (n := 3) (Nat.le_of_ble_eq_true rfl)
  rw [lg_entry_eq]
  generalize (lg_sl ([.ref (ad o), .int st]) ++ List.replicate (3 - (lg_sl ([.ref (ad o), .int st])).length) Slot.unset).toArray = ls at hl ⊢
  have hl : lv_has ls 3 [(0, .ref (ad o)), (1, .int st)] := hl
  refine lv_aload_n hx hb dL_offers_0 rfl (lv_at hl 0 rfl) ?_
  refine lv_iload_n hx hb dL_offers_1 rfl (lv_at hl 1 rfl) ?_
  have hP9 := hP
  have hD9 := hD
  rw [← List.append_nil (wRR G ad o sg)] at hP9 hD9
  refine noV [] (wRR G ad o sg) [] (wRR G ad o sg) (As := [.int st]) (rest := []) CF (kn_X6_offers l hl0 G ad o sg st hk) (cwV 1 hts gL_offers_X6_offers rfl rfl rfl (by decide +kernel) ⟨Nat.le_of_ble_eq_true rfl, Nat.le_of_ble_eq_true rfl⟩) hP9 hD9 hS hA hY hZ rfl rfl (fst_RR _ _ _ _ _) rfl hl.1 rfl (lv_room (Nat.le_of_ble_eq_true rfl)) dL_offers_2 ⟨Nat.le_of_ble_eq_true rfl, Nat.le_of_ble_eq_true rfl⟩ (fun ce q9 H locs hP hD hS hce hcv hcl hgr => ?_)
  rw [List.append_nil] at hP hD
  have hP : va_P G.1 vwCl (wRR G ad o sg) H := hP
  have hD : va_D A (wRR G ad o sg) := hD
  refine vx_catch (own := RL) (name := "java/lang/IllegalArgumentException") hown [] ⟨0, 5, 6, 13⟩ [] htab (fun z hz => nomatch hz) rfl (by decide) kx0 (va_Nw.use rfl (hY.2.1 (.castable "java/lang/IllegalArgumentException" "java/lang/IllegalArgumentException") (List.mem_of_getElem? (i := 39) rfl))) hce hcv hcl ?_
  refine lv_astore_n (lv' := [(2, .ref q9), (0, .ref (ad o)), (1, .int st)]) hx hb dL_offers_6 rfl hl (by decide) rfl (fun ls hl => ?_)
  refine lv_ldc hx hb hown kc15 dL_offers_7 ?_
  exact ck_iret hx hb hr hlk hS hP hgr.1 (by first | with_reducible rfl | (simp only [sld_eq, ↓reduceIte]; done)) (by first | with_reducible rfl | (simp only [sld_eq, ↓reduceIte]; done)) dL_offers_9

set_option maxHeartbeats 4000000 in
set_option maxRecDepth 100000 in
theorem k1_L_exact (l : Launch) (hl0 : l.stackTraces = false) (G : GT) (ad : Nat → Nat) (o : Nat) (sg : RRT) (st gr : Int32) (hk : ¬ (okA st 0 2 ∧ okA gr 0 3)) : Ck 1 1 6 l yL_exact wsL_exact { frames := 8, cells := 1, slots := 6, locals := 144 } G (wRR G ad o sg) (wRR G ad o sg) [.ref (ad o), .int st, .int gr] (some (.int (-9999002))) := by
  intro sz
  refine met_ofWH (cc := cL_exact) (maxL := 4) (ret := (some .int)) (hh := [(0, 6, 7, 13)]) (by decide) rfl ?_
  intro p e s m args below meth c s₁ B hml hv
  obtain ⟨rfl, hsz, hP, hY, hD0, hZ0⟩ := hv
  subst hsz
  have hD := hD0.self (sz := s.heap.size)
  generalize hAe : va_A (wRR G ad o sg) s.heap.size = A at hD hZ0 ⊢
  have hZ : Zs A s s.heap := hZ0
  have hA : ∀ q : Nat, s.heap.size ≤ q → A q := fun q h => by rw [← hAe]; exact Or.inr h
  have hS : va_S A s.heap s.heap [] := va_S.rf
  have hx := B.exec
  have hb := B.bytes
  have hr := B.returns
  have hts := atoms_spec (ws := wsL_exact) B.pre
  have hown : s.vm.findClass RL = some m.cls := findClass_of_methodNamed B.named
  have hlk := B.notSynchronized
  have CF : CallFix p m c cL_exact 4 s _ wsL_exact RL := ⟨hx, hb, hml, hown, hts⟩
  have kx0 := hts (.classLink RL 13 "java/lang/IllegalArgumentException") (List.mem_cons_of_mem _ (List.mem_append_left _ (List.mem_append_left _ (List.mem_append_left _ (List.mem_append_left _ (List.mem_append_left _ (List.mem_of_getElem? (i := 0) rfl)))))))
  have htab := vx_table (x := yL_exact) B (hts (.codeWith yL_exact cL_exact 4 (some .int) [(0, 6, 7, 13)]) List.mem_cons_self)
  have kc15 := hts (.constant RL 15 (-9999002)) (List.mem_cons_of_mem _ (List.mem_append_left _ (List.mem_append_left _ (List.mem_append_left _ (List.mem_append_left _ (List.mem_append_left _ (List.mem_of_getElem? (i := 1) rfl)))))))
  have hl := lv_entry ([.ref (ad o), .int st, .int gr]) (n := 4) (Nat.le_of_ble_eq_true rfl)
  rw [lg_entry_eq]
  generalize (lg_sl ([.ref (ad o), .int st, .int gr]) ++ List.replicate (4 - (lg_sl ([.ref (ad o), .int st, .int gr])).length) Slot.unset).toArray = ls at hl ⊢
  have hl : lv_has ls 4 [(0, .ref (ad o)), (1, .int st), (2, .int gr)] := hl
  refine lv_aload_n hx hb dL_exact_0 rfl (lv_at hl 0 rfl) ?_
  refine lv_iload_n hx hb dL_exact_1 rfl (lv_at hl 1 rfl) ?_
  refine lv_iload_n hx hb dL_exact_2 rfl (lv_at hl 2 rfl) ?_
  have hP9 := hP
  have hD9 := hD
  rw [← List.append_nil (wRR G ad o sg)] at hP9 hD9
  refine noV [] (wRR G ad o sg) [] (wRR G ad o sg) (As := [.int st, .int gr]) (rest := []) CF (kn_X6_exactWeight l hl0 G ad o sg st gr hk) (cwV 2 hts gL_exact_X6_exactWeight rfl rfl rfl (by decide +kernel) ⟨Nat.le_of_ble_eq_true rfl, Nat.le_of_ble_eq_true rfl⟩) hP9 hD9 hS hA hY hZ rfl rfl (fst_RR _ _ _ _ _) rfl hl.1 rfl (lv_room (Nat.le_of_ble_eq_true rfl)) dL_exact_3 ⟨Nat.le_of_ble_eq_true rfl, Nat.le_of_ble_eq_true rfl⟩ (fun ce q9 H locs hP hD hS hce hcv hcl hgr => ?_)
  rw [List.append_nil] at hP hD
  have hP : va_P G.1 vwCl (wRR G ad o sg) H := hP
  have hD : va_D A (wRR G ad o sg) := hD
  refine vx_catch (own := RL) (name := "java/lang/IllegalArgumentException") hown [] ⟨0, 6, 7, 13⟩ [] htab (fun z hz => nomatch hz) rfl (by decide) kx0 (va_Nw.use rfl (hY.2.1 (.castable "java/lang/IllegalArgumentException" "java/lang/IllegalArgumentException") (List.mem_of_getElem? (i := 39) rfl))) hce hcv hcl ?_
  refine lv_astore_n (lv' := [(3, .ref q9), (0, .ref (ad o)), (1, .int st), (2, .int gr)]) hx hb dL_exact_7 rfl hl (by decide) rfl (fun ls hl => ?_)
  refine lv_ldc hx hb hown kc15 dL_exact_8 ?_
  exact ck_iret hx hb hr hlk hS hP hgr.1 (by first | with_reducible rfl | (simp only [sld_eq, ↓reduceIte]; done)) (by first | with_reducible rfl | (simp only [sld_eq, ↓reduceIte]; done)) dL_exact_10

set_option maxHeartbeats 4000000 in
set_option maxRecDepth 100000 in
theorem k1_L_filled (l : Launch) (hl0 : l.stackTraces = false) (G : GT) (ad : Nat → Nat) (o : Nat) (sg : RRT) (st : Int32) (hk : ¬ (okA st 0 1)) : Ck 1 1 6 l yL_filled wsL_filled { frames := 8, cells := 1, slots := 6, locals := 143 } G (wRR G ad o sg) (wRR G ad o sg) [.ref (ad o), .int st] (some (.int (-9999002))) := by
  intro sz
  refine met_ofWH (cc := cL_filled) (maxL := 3) (ret := (some .int)) (hh := [(0, 5, 6, 13)]) (by decide) rfl ?_
  intro p e s m args below meth c s₁ B hml hv
  obtain ⟨rfl, hsz, hP, hY, hD0, hZ0⟩ := hv
  subst hsz
  have hD := hD0.self (sz := s.heap.size)
  generalize hAe : va_A (wRR G ad o sg) s.heap.size = A at hD hZ0 ⊢
  have hZ : Zs A s s.heap := hZ0
  have hA : ∀ q : Nat, s.heap.size ≤ q → A q := fun q h => by rw [← hAe]; exact Or.inr h
  have hS : va_S A s.heap s.heap [] := va_S.rf
  have hx := B.exec
  have hb := B.bytes
  have hr := B.returns
  have hts := atoms_spec (ws := wsL_filled) B.pre
  have hown : s.vm.findClass RL = some m.cls := findClass_of_methodNamed B.named
  have hlk := B.notSynchronized
  have CF : CallFix p m c cL_filled 3 s _ wsL_filled RL := ⟨hx, hb, hml, hown, hts⟩
  have kx0 := hts (.classLink RL 13 "java/lang/IllegalArgumentException") (List.mem_cons_of_mem _ (List.mem_append_left _ (List.mem_append_left _ (List.mem_append_left _ (List.mem_append_left _ (List.mem_append_left _ (List.mem_of_getElem? (i := 0) rfl)))))))
  have htab := vx_table (x := yL_filled) B (hts (.codeWith yL_filled cL_filled 3 (some .int) [(0, 5, 6, 13)]) List.mem_cons_self)
  have kc15 := hts (.constant RL 15 (-9999002)) (List.mem_cons_of_mem _ (List.mem_append_left _ (List.mem_append_left _ (List.mem_append_left _ (List.mem_append_left _ (List.mem_append_left _ (List.mem_of_getElem? (i := 1) rfl)))))))
  have hl := lv_entry ([.ref (ad o), .int st]) (n := 3) (Nat.le_of_ble_eq_true rfl)
  rw [lg_entry_eq]
  generalize (lg_sl ([.ref (ad o), .int st]) ++ List.replicate (3 - (lg_sl ([.ref (ad o), .int st])).length) Slot.unset).toArray = ls at hl ⊢
  have hl : lv_has ls 3 [(0, .ref (ad o)), (1, .int st)] := hl
  refine lv_aload_n hx hb dL_filled_0 rfl (lv_at hl 0 rfl) ?_
  refine lv_iload_n hx hb dL_filled_1 rfl (lv_at hl 1 rfl) ?_
  have hP9 := hP
  have hD9 := hD
  rw [← List.append_nil (wRR G ad o sg)] at hP9 hD9
  refine noV [] (wRR G ad o sg) [] (wRR G ad o sg) (As := [.int st]) (rest := []) CF (kn_X6_reservoirSize l hl0 G ad o sg st hk) (cwV 1 hts gL_filled_X6_reservoirSize rfl rfl rfl (by decide +kernel) ⟨Nat.le_of_ble_eq_true rfl, Nat.le_of_ble_eq_true rfl⟩) hP9 hD9 hS hA hY hZ rfl rfl (fst_RR _ _ _ _ _) rfl hl.1 rfl (lv_room (Nat.le_of_ble_eq_true rfl)) dL_filled_2 ⟨Nat.le_of_ble_eq_true rfl, Nat.le_of_ble_eq_true rfl⟩ (fun ce q9 H locs hP hD hS hce hcv hcl hgr => ?_)
  rw [List.append_nil] at hP hD
  have hP : va_P G.1 vwCl (wRR G ad o sg) H := hP
  have hD : va_D A (wRR G ad o sg) := hD
  refine vx_catch (own := RL) (name := "java/lang/IllegalArgumentException") hown [] ⟨0, 5, 6, 13⟩ [] htab (fun z hz => nomatch hz) rfl (by decide) kx0 (va_Nw.use rfl (hY.2.1 (.castable "java/lang/IllegalArgumentException" "java/lang/IllegalArgumentException") (List.mem_of_getElem? (i := 39) rfl))) hce hcv hcl ?_
  refine lv_astore_n (lv' := [(2, .ref q9), (0, .ref (ad o)), (1, .int st)]) hx hb dL_filled_6 rfl hl (by decide) rfl (fun ls hl => ?_)
  refine lv_ldc hx hb hown kc15 dL_filled_7 ?_
  exact ck_iret hx hb hr hlk hS hP hgr.1 (by first | with_reducible rfl | (simp only [sld_eq, ↓reduceIte]; done)) (by first | with_reducible rfl | (simp only [sld_eq, ↓reduceIte]; done)) dL_filled_9

set_option maxHeartbeats 4000000 in
set_option maxRecDepth 100000 in
theorem k1_L_slotItem (l : Launch) (hl0 : l.stackTraces = false) (G : GT) (ad : Nat → Nat) (o : Nat) (sg : RRT) (st sl : Int32) (hk : ¬ (okA st 0 1)) : Ck 1 1 6 l yL_slotItem wsL_slotItem { frames := 8, cells := 1, slots := 6, locals := 145 } G (wRR G ad o sg) (wRR G ad o sg) [.ref (ad o), .int st, .int sl] (some (.int (-9999002))) := by
  intro sz
  refine met_ofWH (cc := cL_slotItem) (maxL := 4) (ret := (some .int)) (hh := [(0, 6, 7, 13), (0, 6, 11, 40)]) (by decide) rfl ?_
  intro p e s m args below meth c s₁ B hml hv
  obtain ⟨rfl, hsz, hP, hY, hD0, hZ0⟩ := hv
  subst hsz
  have hD := hD0.self (sz := s.heap.size)
  generalize hAe : va_A (wRR G ad o sg) s.heap.size = A at hD hZ0 ⊢
  have hZ : Zs A s s.heap := hZ0
  have hA : ∀ q : Nat, s.heap.size ≤ q → A q := fun q h => by rw [← hAe]; exact Or.inr h
  have hS : va_S A s.heap s.heap [] := va_S.rf
  have hx := B.exec
  have hb := B.bytes
  have hr := B.returns
  have hts := atoms_spec (ws := wsL_slotItem) B.pre
  have hown : s.vm.findClass RL = some m.cls := findClass_of_methodNamed B.named
  have hlk := B.notSynchronized
  have CF : CallFix p m c cL_slotItem 4 s _ wsL_slotItem RL := ⟨hx, hb, hml, hown, hts⟩
  have kx0 := hts (.classLink RL 13 "java/lang/IllegalArgumentException") (List.mem_cons_of_mem _ (List.mem_append_left _ (List.mem_append_left _ (List.mem_append_left _ (List.mem_append_left _ (List.mem_append_left _ (List.mem_append_left _ (List.mem_of_getElem? (i := 0) rfl))))))))
  have htab := vx_table (x := yL_slotItem) B (hts (.codeWith yL_slotItem cL_slotItem 4 (some .int) [(0, 6, 7, 13), (0, 6, 11, 40)]) List.mem_cons_self)
  have kc15 := hts (.constant RL 15 (-9999002)) (List.mem_cons_of_mem _ (List.mem_append_left _ (List.mem_append_left _ (List.mem_append_left _ (List.mem_append_left _ (List.mem_append_left _ (List.mem_append_left _ (List.mem_of_getElem? (i := 2) rfl))))))))
  have hl := lv_entry ([.ref (ad o), .int st, .int sl]) (n := 4) (Nat.le_of_ble_eq_true rfl)
  rw [lg_entry_eq]
  generalize (lg_sl ([.ref (ad o), .int st, .int sl]) ++ List.replicate (4 - (lg_sl ([.ref (ad o), .int st, .int sl])).length) Slot.unset).toArray = ls at hl ⊢
  have hl : lv_has ls 4 [(0, .ref (ad o)), (1, .int st), (2, .int sl)] := hl
  refine lv_aload_n hx hb dL_slotItem_0 rfl (lv_at hl 0 rfl) ?_
  refine lv_iload_n hx hb dL_slotItem_1 rfl (lv_at hl 1 rfl) ?_
  refine lv_iload_n hx hb dL_slotItem_2 rfl (lv_at hl 2 rfl) ?_
  have hP9 := hP
  have hD9 := hD
  rw [← List.append_nil (wRR G ad o sg)] at hP9 hD9
  refine noV [] (wRR G ad o sg) [] (wRR G ad o sg) (As := [.int st, .int sl]) (rest := []) CF (kn_X6_reservoirItem l hl0 G ad o sg st sl hk) (cwV 2 hts gL_slotItem_X6_reservoirItem rfl rfl rfl (by decide +kernel) ⟨Nat.le_of_ble_eq_true rfl, Nat.le_of_ble_eq_true rfl⟩) hP9 hD9 hS hA hY hZ rfl rfl (fst_RR _ _ _ _ _) rfl hl.1 rfl (lv_room (Nat.le_of_ble_eq_true rfl)) dL_slotItem_3 ⟨Nat.le_of_ble_eq_true rfl, Nat.le_of_ble_eq_true rfl⟩ (fun ce q9 H locs hP hD hS hce hcv hcl hgr => ?_)
  rw [List.append_nil] at hP hD
  have hP : va_P G.1 vwCl (wRR G ad o sg) H := hP
  have hD : va_D A (wRR G ad o sg) := hD
  refine vx_catch (own := RL) (name := "java/lang/IllegalArgumentException") hown [] ⟨0, 6, 7, 13⟩ [⟨0, 6, 11, 40⟩] htab (fun z hz => nomatch hz) rfl (by decide) kx0 (va_Nw.use rfl (hY.2.1 (.castable "java/lang/IllegalArgumentException" "java/lang/IllegalArgumentException") (List.mem_of_getElem? (i := 39) rfl))) hce hcv hcl ?_
  refine lv_astore_n (lv' := [(3, .ref q9), (0, .ref (ad o)), (1, .int st), (2, .int sl)]) hx hb dL_slotItem_7 rfl hl (by decide) rfl (fun ls hl => ?_)
  refine lv_ldc hx hb hown kc15 dL_slotItem_8 ?_
  exact ck_iret hx hb hr hlk hS hP hgr.1 (by first | with_reducible rfl | (simp only [sld_eq, ↓reduceIte]; done)) (by first | with_reducible rfl | (simp only [sld_eq, ↓reduceIte]; done)) dL_slotItem_10

set_option maxHeartbeats 4000000 in
set_option maxRecDepth 100000 in
theorem k2_L_slotItem (l : Launch) (hl0 : l.stackTraces = false) (G : GT) (ad : Nat → Nat) (o : Nat) (sg : RRT) (st sl : Int32) (h0 : okA st 0 1) (hs : ¬ okP sl (resFilled (rrStr sg st).2.2.2.1)) : Ck 1 1 6 l yL_slotItem wsL_slotItem { frames := 8, cells := 1, slots := 6, locals := 145 } G (wRR G ad o sg) (wRR G ad o sg) [.ref (ad o), .int st, .int sl] (some (.int (-9999001))) := by
  intro sz
  refine met_ofWH (cc := cL_slotItem) (maxL := 4) (ret := (some .int)) (hh := [(0, 6, 7, 13), (0, 6, 11, 40)]) (by decide) rfl ?_
  intro p e s m args below meth c s₁ B hml hv
  obtain ⟨rfl, hsz, hP, hY, hD0, hZ0⟩ := hv
  subst hsz
  have hD := hD0.self (sz := s.heap.size)
  generalize hAe : va_A (wRR G ad o sg) s.heap.size = A at hD hZ0 ⊢
  have hZ : Zs A s s.heap := hZ0
  have hA : ∀ q : Nat, s.heap.size ≤ q → A q := fun q h => by rw [← hAe]; exact Or.inr h
  have hS : va_S A s.heap s.heap [] := va_S.rf
  have hx := B.exec
  have hb := B.bytes
  have hr := B.returns
  have hts := atoms_spec (ws := wsL_slotItem) B.pre
  have hown : s.vm.findClass RL = some m.cls := findClass_of_methodNamed B.named
  have hlk := B.notSynchronized
  have CF : CallFix p m c cL_slotItem 4 s _ wsL_slotItem RL := ⟨hx, hb, hml, hown, hts⟩
  have kx1 := hts (.classLink RL 40 "java/lang/IndexOutOfBoundsException") (List.mem_cons_of_mem _ (List.mem_append_left _ (List.mem_append_left _ (List.mem_append_left _ (List.mem_append_left _ (List.mem_append_left _ (List.mem_append_left _ (List.mem_of_getElem? (i := 1) rfl))))))))
  have kx0 := hts (.classLink RL 13 "java/lang/IllegalArgumentException") (List.mem_cons_of_mem _ (List.mem_append_left _ (List.mem_append_left _ (List.mem_append_left _ (List.mem_append_left _ (List.mem_append_left _ (List.mem_append_left _ (List.mem_of_getElem? (i := 0) rfl))))))))
  have htab := vx_table (x := yL_slotItem) B (hts (.codeWith yL_slotItem cL_slotItem 4 (some .int) [(0, 6, 7, 13), (0, 6, 11, 40)]) List.mem_cons_self)
  have kc42 := hts (.constant RL 42 (-9999001)) (List.mem_cons_of_mem _ (List.mem_append_left _ (List.mem_append_left _ (List.mem_append_left _ (List.mem_append_left _ (List.mem_append_left _ (List.mem_append_left _ (List.mem_of_getElem? (i := 3) rfl))))))))
  have hl := lv_entry ([.ref (ad o), .int st, .int sl]) (n := 4) (Nat.le_of_ble_eq_true rfl)
  rw [lg_entry_eq]
  generalize (lg_sl ([.ref (ad o), .int st, .int sl]) ++ List.replicate (4 - (lg_sl ([.ref (ad o), .int st, .int sl])).length) Slot.unset).toArray = ls at hl ⊢
  have hl : lv_has ls 4 [(0, .ref (ad o)), (1, .int st), (2, .int sl)] := hl
  refine lv_aload_n hx hb dL_slotItem_0 rfl (lv_at hl 0 rfl) ?_
  refine lv_iload_n hx hb dL_slotItem_1 rfl (lv_at hl 1 rfl) ?_
  refine lv_iload_n hx hb dL_slotItem_2 rfl (lv_at hl 2 rfl) ?_
  have hP9 := hP
  have hD9 := hD
  rw [← List.append_nil (wRR G ad o sg)] at hP9 hD9
  refine noV [] (wRR G ad o sg) [] (wRR G ad o sg) (As := [.int st, .int sl]) (rest := []) CF (kn2_X6_reservoirItem l hl0 G ad o sg st sl h0 hs) (cwV 2 hts gL_slotItem_X6_reservoirItem rfl rfl rfl (by decide +kernel) ⟨Nat.le_of_ble_eq_true rfl, Nat.le_of_ble_eq_true rfl⟩) hP9 hD9 hS hA hY hZ rfl rfl (fst_RR _ _ _ _ _) rfl hl.1 rfl (lv_room (Nat.le_of_ble_eq_true rfl)) dL_slotItem_3 ⟨Nat.le_of_ble_eq_true rfl, Nat.le_of_ble_eq_true rfl⟩ (fun ce q9 H locs hP hD hS hce hcv hcl hgr => ?_)
  rw [List.append_nil] at hP hD
  have hP : va_P G.1 vwCl (wRR G ad o sg) H := hP
  have hD : va_D A (wRR G ad o sg) := hD
  refine vx_catch (own := RL) (name := "java/lang/IndexOutOfBoundsException") hown [⟨0, 6, 7, 13⟩] ⟨0, 6, 11, 40⟩ [] htab (fun z hz => by rcases List.mem_singleton.mp hz with rfl; exact Or.inr ⟨by decide, _, kx0, hY.2.2.1 ("java/lang/IndexOutOfBoundsException", "java/lang/IllegalArgumentException") (List.mem_of_getElem? (i := 1) rfl)⟩) rfl (by decide) kx1 (va_Nw.use rfl (hY.2.1 (.castable "java/lang/IndexOutOfBoundsException" "java/lang/IndexOutOfBoundsException") (List.mem_of_getElem? (i := 41) rfl))) hce hcv hcl ?_
  refine lv_astore_n (lv' := [(3, .ref q9), (0, .ref (ad o)), (1, .int st), (2, .int sl)]) hx hb dL_slotItem_11 rfl hl (by decide) rfl (fun ls hl => ?_)
  refine lv_ldc hx hb hown kc42 dL_slotItem_12 ?_
  exact ck_iret hx hb hr hlk hS hP hgr.1 (by first | with_reducible rfl | (simp only [sld_eq, ↓reduceIte]; done)) (by first | with_reducible rfl | (simp only [sld_eq, ↓reduceIte]; done)) dL_slotItem_14

set_option maxHeartbeats 4000000 in
set_option maxRecDepth 100000 in
theorem k2_L_slotPosition (l : Launch) (hl0 : l.stackTraces = false) (G : GT) (ad : Nat → Nat) (o : Nat) (sg : RRT) (st sl : Int32) (h0 : okA st 0 1) (hs : ¬ okP sl (resFilled (rrStr sg st).2.2.2.1)) : Ck 1 1 6 l yL_slotPosition wsL_slotPosition { frames := 8, cells := 1, slots := 6, locals := 145 } G (wRR G ad o sg) (wRR G ad o sg) [.ref (ad o), .int st, .int sl] (some (.int (-9999001))) := by
  intro sz
  refine met_ofWH (cc := cL_slotPosition) (maxL := 4) (ret := (some .int)) (hh := [(0, 6, 7, 13), (0, 6, 11, 40)]) (by decide) rfl ?_
  intro p e s m args below meth c s₁ B hml hv
  obtain ⟨rfl, hsz, hP, hY, hD0, hZ0⟩ := hv
  subst hsz
  have hD := hD0.self (sz := s.heap.size)
  generalize hAe : va_A (wRR G ad o sg) s.heap.size = A at hD hZ0 ⊢
  have hZ : Zs A s s.heap := hZ0
  have hA : ∀ q : Nat, s.heap.size ≤ q → A q := fun q h => by rw [← hAe]; exact Or.inr h
  have hS : va_S A s.heap s.heap [] := va_S.rf
  have hx := B.exec
  have hb := B.bytes
  have hr := B.returns
  have hts := atoms_spec (ws := wsL_slotPosition) B.pre
  have hown : s.vm.findClass RL = some m.cls := findClass_of_methodNamed B.named
  have hlk := B.notSynchronized
  have CF : CallFix p m c cL_slotPosition 4 s _ wsL_slotPosition RL := ⟨hx, hb, hml, hown, hts⟩
  have kx1 := hts (.classLink RL 40 "java/lang/IndexOutOfBoundsException") (List.mem_cons_of_mem _ (List.mem_append_left _ (List.mem_append_left _ (List.mem_append_left _ (List.mem_append_left _ (List.mem_append_left _ (List.mem_append_left _ (List.mem_of_getElem? (i := 1) rfl))))))))
  have kx0 := hts (.classLink RL 13 "java/lang/IllegalArgumentException") (List.mem_cons_of_mem _ (List.mem_append_left _ (List.mem_append_left _ (List.mem_append_left _ (List.mem_append_left _ (List.mem_append_left _ (List.mem_append_left _ (List.mem_of_getElem? (i := 0) rfl))))))))
  have htab := vx_table (x := yL_slotPosition) B (hts (.codeWith yL_slotPosition cL_slotPosition 4 (some .int) [(0, 6, 7, 13), (0, 6, 11, 40)]) List.mem_cons_self)
  have kc42 := hts (.constant RL 42 (-9999001)) (List.mem_cons_of_mem _ (List.mem_append_left _ (List.mem_append_left _ (List.mem_append_left _ (List.mem_append_left _ (List.mem_append_left _ (List.mem_append_left _ (List.mem_of_getElem? (i := 3) rfl))))))))
  have hl := lv_entry ([.ref (ad o), .int st, .int sl]) (n := 4) (Nat.le_of_ble_eq_true rfl)
  rw [lg_entry_eq]
  generalize (lg_sl ([.ref (ad o), .int st, .int sl]) ++ List.replicate (4 - (lg_sl ([.ref (ad o), .int st, .int sl])).length) Slot.unset).toArray = ls at hl ⊢
  have hl : lv_has ls 4 [(0, .ref (ad o)), (1, .int st), (2, .int sl)] := hl
  refine lv_aload_n hx hb dL_slotPosition_0 rfl (lv_at hl 0 rfl) ?_
  refine lv_iload_n hx hb dL_slotPosition_1 rfl (lv_at hl 1 rfl) ?_
  refine lv_iload_n hx hb dL_slotPosition_2 rfl (lv_at hl 2 rfl) ?_
  have hP9 := hP
  have hD9 := hD
  rw [← List.append_nil (wRR G ad o sg)] at hP9 hD9
  refine noV [] (wRR G ad o sg) [] (wRR G ad o sg) (As := [.int st, .int sl]) (rest := []) CF (kn2_X6_reservoirPosition l hl0 G ad o sg st sl h0 hs) (cwV 2 hts gL_slotPosition_X6_reservoirPosition rfl rfl rfl (by decide +kernel) ⟨Nat.le_of_ble_eq_true rfl, Nat.le_of_ble_eq_true rfl⟩) hP9 hD9 hS hA hY hZ rfl rfl (fst_RR _ _ _ _ _) rfl hl.1 rfl (lv_room (Nat.le_of_ble_eq_true rfl)) dL_slotPosition_3 ⟨Nat.le_of_ble_eq_true rfl, Nat.le_of_ble_eq_true rfl⟩ (fun ce q9 H locs hP hD hS hce hcv hcl hgr => ?_)
  rw [List.append_nil] at hP hD
  have hP : va_P G.1 vwCl (wRR G ad o sg) H := hP
  have hD : va_D A (wRR G ad o sg) := hD
  refine vx_catch (own := RL) (name := "java/lang/IndexOutOfBoundsException") hown [⟨0, 6, 7, 13⟩] ⟨0, 6, 11, 40⟩ [] htab (fun z hz => by rcases List.mem_singleton.mp hz with rfl; exact Or.inr ⟨by decide, _, kx0, hY.2.2.1 ("java/lang/IndexOutOfBoundsException", "java/lang/IllegalArgumentException") (List.mem_of_getElem? (i := 1) rfl)⟩) rfl (by decide) kx1 (va_Nw.use rfl (hY.2.1 (.castable "java/lang/IndexOutOfBoundsException" "java/lang/IndexOutOfBoundsException") (List.mem_of_getElem? (i := 41) rfl))) hce hcv hcl ?_
  refine lv_astore_n (lv' := [(3, .ref q9), (0, .ref (ad o)), (1, .int st), (2, .int sl)]) hx hb dL_slotPosition_11 rfl hl (by decide) rfl (fun ls hl => ?_)
  refine lv_ldc hx hb hown kc42 dL_slotPosition_12 ?_
  exact ck_iret hx hb hr hlk hS hP hgr.1 (by first | with_reducible rfl | (simp only [sld_eq, ↓reduceIte]; done)) (by first | with_reducible rfl | (simp only [sld_eq, ↓reduceIte]; done)) dL_slotPosition_14
