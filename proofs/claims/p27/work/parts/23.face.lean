set_option maxHeartbeats 4000000 in
set_option maxRecDepth 100000 in
theorem k_X6_begin (l : Launch) (G : GT) (ad : Nat → Nat) (o : Nat) (sg : RRT) (k2 w2 : Int32) (h0 : okA k2 2 16) (h1 : okA w2 1 64) : Wr l yX6_begin wsX6_begin { frames := 7, cells := 0, slots := 0, locals := 122 } G (wRR G ad o sg) (wRR G ad o (rrStart k2 w2 sg)) [.ref (ad o), .int k2, .int w2] none := by
  intro sz
  obtain ⟨k, s0, s1, mp, md⟩ := sg
  refine Met.ofW (cc := cX6_begin) (maxL := 3) (ret := none) (by decide) rfl ?_
  intro p e s m args below meth c s₁ B hml hv
  obtain ⟨rfl, hsz, hP, hY, hD0⟩ := hv
  subst hsz
  have hD := hD0.self (sz := s.heap.size)
  generalize hAe : va_A (wRR G ad o (k, s0, s1, mp, md)) s.heap.size = A at hD ⊢
  have hA : ∀ q : Nat, s.heap.size ≤ q → A q := fun q h => by rw [← hAe]; exact Or.inr h
  have hS : va_S A s.heap s.heap [] := va_S.rf
  have hx := B.exec
  have hb := B.bytes
  have hr := B.returns
  have hts := atoms_spec (ws := wsX6_begin) B.pre
  have hown : s.vm.findClass RX6 = some m.cls := findClass_of_methodNamed B.named
  have hlk := B.notSynchronized
  have CF : CallFix p m c cX6_begin 3 s _ wsX6_begin RX6 := ⟨hx, hb, hml, hown, hts⟩
  have hl := lv_entry ([.ref (ad o), .int k2, .int w2]) (n := 3) (Nat.le_of_ble_eq_true rfl)
  rw [lg_entry_eq]
  generalize (lg_sl ([.ref (ad o), .int k2, .int w2]) ++ List.replicate (3 - (lg_sl ([.ref (ad o), .int k2, .int w2])).length) Slot.unset).toArray = ls at hl ⊢
  have hl : lv_has ls 3 [(0, .ref (ad o)), (1, .int k2), (2, .int w2)] := hl
  refine lv_iload_n hx hb dX6_begin_0 rfl (lv_at hl 1 rfl) ?_
  refine lv_iconst (v := 2) hx hb dX6_begin_1 (by decide) ?_
  refine lv_bipush (v := 16) hx hb dX6_begin_2 (by decide) ?_
  refine rvS (w0 := []) (As := [.int k2, .int 2, .int 16]) (rest := []) CF (k_X6_checkArgument l G k2 2 16 h0) (va_cwS 3 hts gX6_begin_X6_checkArgument rfl rfl rfl (by decide +kernel) ⟨Nat.le_of_ble_eq_true rfl, Nat.le_of_ble_eq_true rfl⟩) va_P_nil hY rfl hl.1 rfl (lv_room (Nat.le_of_ble_eq_true rfl)) dX6_begin_4 ⟨Nat.zero_le _, Nat.zero_le _⟩ ?_
  refine lv_iload_n hx hb dX6_begin_7 rfl (lv_at hl 2 rfl) ?_
  refine lv_iconst (v := 1) hx hb dX6_begin_8 (by decide) ?_
  refine lv_bipush (v := 64) hx hb dX6_begin_9 (by decide) ?_
  refine rvS (w0 := []) (As := [.int w2, .int 1, .int 64]) (rest := []) CF (k_X6_checkArgument l G w2 1 64 h1) (va_cwS 3 hts gX6_begin_X6_checkArgument rfl rfl rfl (by decide +kernel) ⟨Nat.le_of_ble_eq_true rfl, Nat.le_of_ble_eq_true rfl⟩) va_P_nil hY rfl hl.1 rfl (lv_room (Nat.le_of_ble_eq_true rfl)) dX6_begin_11 ⟨Nat.zero_le _, Nat.zero_le _⟩ ?_
  refine lv_aload_n hx hb dX6_begin_14 rfl (lv_at hl 0 rfl) ?_
  refine lv_iload_n hx hb dX6_begin_15 rfl (lv_at hl 1 rfl) ?_
  refine lv_iload_n hx hb dX6_begin_16 rfl (lv_at hl 2 rfl) ?_
  refine wrV [] (wRR G ad o (k, s0, s1, mp, md)) [] (wRR G ad o (rrStart k2 w2 (k, s0, s1, mp, md))) (As := [.int k2, .int w2]) (rest := []) CF (k_X6_startAgain l G ad o (k, s0, s1, mp, md) k2 w2) (cwV 2 hts gX6_begin_X6_startAgain rfl rfl rfl (by decide +kernel) ⟨Nat.le_of_ble_eq_true rfl, Nat.le_of_ble_eq_true rfl⟩) hP hD hS hA hY rfl rfl (fst_RR _ _ _ _ _) rfl hl.1 rfl (lv_room (Nat.le_of_ble_eq_true rfl)) dX6_begin_17 ⟨Nat.zero_le _, Nat.zero_le _⟩ (fun H locs hP hD hS => ?_)
  have hP : va_P G.1 vwCl (wRR G ad o (rrStart k2 w2 (k, s0, s1, mp, md))) H := hP
  have hD : va_D A (wRR G ad o (rrStart k2 w2 (k, s0, s1, mp, md))) := hD
  exact wr_vret hx hb hr hlk hS hP (by first | with_reducible rfl | (simp only [sld_eq, ↓reduceIte]; done)) dX6_begin_20

set_option maxHeartbeats 4000000 in
set_option maxRecDepth 100000 in
theorem kn_X6_begin (l : Launch) (hl0 : l.stackTraces = false) (G : GT) (ad : Nat → Nat) (o : Nat) (sg : RRT) (k2 w2 : Int32) (hk : ¬ (okA k2 2 16 ∧ okA w2 1 64)) : No l yX6_begin wsX6_begin { frames := 7, cells := 1, slots := 6, locals := 122 } G (wRR G ad o sg) (wRR G ad o sg) [.ref (ad o), .int k2, .int w2] "java/lang/IllegalArgumentException" := by
  intro sz
  obtain ⟨k, s0, s1, mp, md⟩ := sg
  refine vx_ofW (cc := cX6_begin) (maxL := 3) (ret := none) (by decide) rfl ?_
  intro p e s m args below meth c s₁ B hml ht hv
  obtain ⟨rfl, hsz, hP, hY, hD0, hZ0⟩ := hv
  subst hsz
  have hD := hD0.self (sz := s.heap.size)
  generalize hAe : va_A (wRR G ad o (k, s0, s1, mp, md)) s.heap.size = A at hD hZ0 ⊢
  have hZ : Zs A s s.heap := hZ0
  have hA : ∀ q : Nat, s.heap.size ≤ q → A q := fun q h => by rw [← hAe]; exact Or.inr h
  have hS : va_S A s.heap s.heap [] := va_S.rf
  have hx := B.exec
  have hb := B.bytes
  have hr := B.returns
  have hts := atoms_spec (ws := wsX6_begin) B.pre
  have hown : s.vm.findClass RX6 = some m.cls := findClass_of_methodNamed B.named
  have hlk := B.notSynchronized
  have CF : CallFix p m c cX6_begin 3 s _ wsX6_begin RX6 := ⟨hx, hb, hml, hown, hts⟩
  have hl := lv_entry ([.ref (ad o), .int k2, .int w2]) (n := 3) (Nat.le_of_ble_eq_true rfl)
  rw [lg_entry_eq]
  generalize (lg_sl ([.ref (ad o), .int k2, .int w2]) ++ List.replicate (3 - (lg_sl ([.ref (ad o), .int k2, .int w2])).length) Slot.unset).toArray = ls at hl ⊢
  have hl : lv_has ls 3 [(0, .ref (ad o)), (1, .int k2), (2, .int w2)] := hl
  refine lv_iload_n hx hb dX6_begin_0 rfl (lv_at hl 1 rfl) ?_
  refine lv_iconst (v := 2) hx hb dX6_begin_1 (by decide) ?_
  refine lv_bipush (v := 16) hx hb dX6_begin_2 (by decide) ?_
  by_cases q4_1 : okA k2 2 16
  · refine rvS (w0 := []) (As := [.int k2, .int 2, .int 16]) (rest := []) CF (k_X6_checkArgument l G k2 2 16 q4_1) (va_cwS 3 hts gX6_begin_X6_checkArgument rfl rfl rfl (by decide +kernel) ⟨Nat.le_of_ble_eq_true rfl, Nat.le_of_ble_eq_true rfl⟩) va_P_nil hY rfl hl.1 rfl (lv_room (Nat.le_of_ble_eq_true rfl)) dX6_begin_4 ⟨Nat.zero_le _, Nat.zero_le _⟩ ?_
    refine lv_iload_n hx hb dX6_begin_7 rfl (lv_at hl 2 rfl) ?_
    refine lv_iconst (v := 1) hx hb dX6_begin_8 (by decide) ?_
    refine lv_bipush (v := 64) hx hb dX6_begin_9 (by decide) ?_
    by_cases q11_2 : okA w2 1 64
    · refine rvS (w0 := []) (As := [.int w2, .int 1, .int 64]) (rest := []) CF (k_X6_checkArgument l G w2 1 64 q11_2) (va_cwS 3 hts gX6_begin_X6_checkArgument rfl rfl rfl (by decide +kernel) ⟨Nat.le_of_ble_eq_true rfl, Nat.le_of_ble_eq_true rfl⟩) va_P_nil hY rfl hl.1 rfl (lv_room (Nat.le_of_ble_eq_true rfl)) dX6_begin_11 ⟨Nat.zero_le _, Nat.zero_le _⟩ ?_
      exact absurd ⟨q4_1, q11_2⟩ hk
    · refine noS0 (As := [.int w2, .int 1, .int 64]) (rest := []) CF (kn_X6_checkArgument l hl0 G w2 1 64 q11_2) (va_cwS 3 hts gX6_begin_X6_checkArgument rfl rfl rfl (by decide +kernel) ⟨Nat.le_of_ble_eq_true rfl, Nat.le_of_ble_eq_true rfl⟩) hP hD hS hA hY hZ rfl hl.1 rfl (lv_room (Nat.le_of_ble_eq_true rfl)) dX6_begin_11 ⟨Nat.le_of_ble_eq_true rfl, Nat.le_of_ble_eq_true rfl⟩ (fun ce q9 H locs hP hD hS hce hcv hcl hgr => ?_)
      exact no_out ht hlk hce hcv hcl hgr hS hP (by first | with_reducible rfl | (simp only [sld_eq, q4_1, q11_2, ↓reduceIte]; done))
  · refine noS0 (As := [.int k2, .int 2, .int 16]) (rest := []) CF (kn_X6_checkArgument l hl0 G k2 2 16 q4_1) (va_cwS 3 hts gX6_begin_X6_checkArgument rfl rfl rfl (by decide +kernel) ⟨Nat.le_of_ble_eq_true rfl, Nat.le_of_ble_eq_true rfl⟩) hP hD hS hA hY hZ rfl hl.1 rfl (lv_room (Nat.le_of_ble_eq_true rfl)) dX6_begin_4 ⟨Nat.le_of_ble_eq_true rfl, Nat.le_of_ble_eq_true rfl⟩ (fun ce q9 H locs hP hD hS hce hcv hcl hgr => ?_)
    exact no_out ht hlk hce hcv hcl hgr hS hP (by first | with_reducible rfl | (simp only [sld_eq, q4_1, ↓reduceIte]; done))

set_option maxHeartbeats 4000000 in
set_option maxRecDepth 100000 in
theorem k_X6_offer (l : Launch) (G : GT) (ad : Nat → Nat) (o : Nat) (sg : RRT) (st ia wa gr fa sa : Int32) (h0 : okA st 0 1) (h1 : okA ia 0 1000000) (h2 : okA wa 1 1000000) (h3 : okA gr 0 3) (h4 : okA fa 0 2147483647) (h5 : okA sa 0 2147483647) (hs : ¬ 300 ≤ (rrStr sg st).2.2.1) : Wr l yX6_offer wsX6_offer { frames := 7, cells := 0, slots := 0, locals := 122 } G (wRR G ad o sg) (wRR G ad o (rrSet sg st (strTake (rrStr sg st) ia wa gr fa sa))) [.ref (ad o), .int st, .int ia, .int wa, .int gr, .int fa, .int sa] (some (.int ((strTake (rrStr sg st) ia wa gr fa sa).2.2.1))) := by
  intro sz
  obtain ⟨k, s0, s1, mp, md⟩ := sg
  refine Met.ofW (cc := cX6_offer) (maxL := 8) (ret := (some .int)) (by decide) rfl ?_
  intro p e s m args below meth c s₁ B hml hv
  obtain ⟨rfl, hsz, hP, hY, hD0⟩ := hv
  subst hsz
  have hD := hD0.self (sz := s.heap.size)
  generalize hAe : va_A (wRR G ad o (k, s0, s1, mp, md)) s.heap.size = A at hD ⊢
  have hA : ∀ q : Nat, s.heap.size ≤ q → A q := fun q h => by rw [← hAe]; exact Or.inr h
  have hS : va_S A s.heap s.heap [] := va_S.rf
  have hx := B.exec
  have hb := B.bytes
  have hr := B.returns
  have hts := atoms_spec (ws := wsX6_offer) B.pre
  have hown : s.vm.findClass RX6 = some m.cls := findClass_of_methodNamed B.named
  have hlk := B.notSynchronized
  have CF : CallFix p m c cX6_offer 8 s _ wsX6_offer RX6 := ⟨hx, hb, hml, hown, hts⟩
  have kc41 := hts (.constant RX6 41 (1000000)) (List.mem_cons_of_mem _ (List.mem_append_left _ (List.mem_append_left _ (List.mem_append_left _ (List.mem_append_left _ (List.mem_append_left _ (List.mem_append_left _ (List.mem_append_left _ (List.mem_append_left _ (List.mem_append_left _ (List.mem_append_left _ (List.mem_of_getElem? (i := 0) rfl))))))))))))
  have kc42 := hts (.constant RX6 42 (2147483647)) (List.mem_cons_of_mem _ (List.mem_append_left _ (List.mem_append_left _ (List.mem_append_left _ (List.mem_append_left _ (List.mem_append_left _ (List.mem_append_left _ (List.mem_append_left _ (List.mem_append_left _ (List.mem_append_left _ (List.mem_append_left _ (List.mem_of_getElem? (i := 1) rfl))))))))))))
  have hiX5 : ∀ w ∈ wsX50, w ∈ wsX6_offer := fun w h => (List.mem_cons_of_mem _ (List.mem_append_left _ (List.mem_append_left _ (List.mem_append_left _ (List.mem_append_left _ (List.mem_append_left _ (List.mem_append_left _ (List.mem_append_left _ (List.mem_append_left _ (List.mem_append_right _ h))))))))))
  have hl := lv_entry ([.ref (ad o), .int st, .int ia, .int wa, .int gr, .int fa, .int sa]) (n := 8) (Nat.le_of_ble_eq_true rfl)
  rw [lg_entry_eq]
  generalize (lg_sl ([.ref (ad o), .int st, .int ia, .int wa, .int gr, .int fa, .int sa]) ++ List.replicate (8 - (lg_sl ([.ref (ad o), .int st, .int ia, .int wa, .int gr, .int fa, .int sa])).length) Slot.unset).toArray = ls at hl ⊢
  have hl : lv_has ls 8 [(0, .ref (ad o)), (1, .int st), (2, .int ia), (3, .int wa), (4, .int gr), (5, .int fa), (6, .int sa)] := hl
  refine lv_iload_n hx hb dX6_offer_0 rfl (lv_at hl 1 rfl) ?_
  refine lv_iconst (v := 0) hx hb dX6_offer_1 (by decide) ?_
  refine lv_iconst (v := 1) hx hb dX6_offer_2 (by decide) ?_
  refine rvS (w0 := []) (As := [.int st, .int 0, .int 1]) (rest := []) CF (k_X6_checkArgument l G st 0 1 h0) (va_cwS 3 hts gX6_offer_X6_checkArgument rfl rfl rfl (by decide +kernel) ⟨Nat.le_of_ble_eq_true rfl, Nat.le_of_ble_eq_true rfl⟩) va_P_nil hY rfl hl.1 rfl (lv_room (Nat.le_of_ble_eq_true rfl)) dX6_offer_3 ⟨Nat.zero_le _, Nat.zero_le _⟩ ?_
  refine lv_iload_n hx hb dX6_offer_6 rfl (lv_at hl 2 rfl) ?_
  refine lv_iconst (v := 0) hx hb dX6_offer_7 (by decide) ?_
  refine lv_ldc hx hb hown kc41 dX6_offer_8 ?_
  refine rvS (w0 := []) (As := [.int ia, .int 0, .int 1000000]) (rest := []) CF (k_X6_checkArgument l G ia 0 1000000 h1) (va_cwS 3 hts gX6_offer_X6_checkArgument rfl rfl rfl (by decide +kernel) ⟨Nat.le_of_ble_eq_true rfl, Nat.le_of_ble_eq_true rfl⟩) va_P_nil hY rfl hl.1 rfl (lv_room (Nat.le_of_ble_eq_true rfl)) dX6_offer_10 ⟨Nat.zero_le _, Nat.zero_le _⟩ ?_
  refine lv_iload_n hx hb dX6_offer_13 rfl (lv_at hl 3 rfl) ?_
  refine lv_iconst (v := 1) hx hb dX6_offer_14 (by decide) ?_
  refine lv_ldc hx hb hown kc41 dX6_offer_15 ?_
  refine rvS (w0 := []) (As := [.int wa, .int 1, .int 1000000]) (rest := []) CF (k_X6_checkArgument l G wa 1 1000000 h2) (va_cwS 3 hts gX6_offer_X6_checkArgument rfl rfl rfl (by decide +kernel) ⟨Nat.le_of_ble_eq_true rfl, Nat.le_of_ble_eq_true rfl⟩) va_P_nil hY rfl hl.1 rfl (lv_room (Nat.le_of_ble_eq_true rfl)) dX6_offer_17 ⟨Nat.zero_le _, Nat.zero_le _⟩ ?_
  refine lv_iload hx hb dX6_offer_20 (lv_at hl 4 rfl) ?_
  refine lv_iconst (v := 0) hx hb dX6_offer_22 (by decide) ?_
  refine lv_iconst (v := 3) hx hb dX6_offer_23 (by decide) ?_
  refine rvS (w0 := []) (As := [.int gr, .int 0, .int 3]) (rest := []) CF (k_X6_checkArgument l G gr 0 3 h3) (va_cwS 3 hts gX6_offer_X6_checkArgument rfl rfl rfl (by decide +kernel) ⟨Nat.le_of_ble_eq_true rfl, Nat.le_of_ble_eq_true rfl⟩) va_P_nil hY rfl hl.1 rfl (lv_room (Nat.le_of_ble_eq_true rfl)) dX6_offer_24 ⟨Nat.zero_le _, Nat.zero_le _⟩ ?_
  refine lv_iload hx hb dX6_offer_27 (lv_at hl 5 rfl) ?_
  refine lv_iconst (v := 0) hx hb dX6_offer_29 (by decide) ?_
  refine lv_ldc hx hb hown kc42 dX6_offer_30 ?_
  refine rvS (w0 := []) (As := [.int fa, .int 0, .int 2147483647]) (rest := []) CF (k_X6_checkArgument l G fa 0 2147483647 h4) (va_cwS 3 hts gX6_offer_X6_checkArgument rfl rfl rfl (by decide +kernel) ⟨Nat.le_of_ble_eq_true rfl, Nat.le_of_ble_eq_true rfl⟩) va_P_nil hY rfl hl.1 rfl (lv_room (Nat.le_of_ble_eq_true rfl)) dX6_offer_32 ⟨Nat.zero_le _, Nat.zero_le _⟩ ?_
  refine lv_iload hx hb dX6_offer_35 (lv_at hl 6 rfl) ?_
  refine lv_iconst (v := 0) hx hb dX6_offer_37 (by decide) ?_
  refine lv_ldc hx hb hown kc42 dX6_offer_38 ?_
  refine rvS (w0 := []) (As := [.int sa, .int 0, .int 2147483647]) (rest := []) CF (k_X6_checkArgument l G sa 0 2147483647 h5) (va_cwS 3 hts gX6_offer_X6_checkArgument rfl rfl rfl (by decide +kernel) ⟨Nat.le_of_ble_eq_true rfl, Nat.le_of_ble_eq_true rfl⟩) va_P_nil hY rfl hl.1 rfl (lv_room (Nat.le_of_ble_eq_true rfl)) dX6_offer_40 ⟨Nat.zero_le _, Nat.zero_le _⟩ ?_
  refine lv_aload_n hx hb dX6_offer_43 rfl (lv_at hl 0 rfl) ?_
  refine lv_iload_n hx hb dX6_offer_44 rfl (lv_at hl 1 rfl) ?_
  by_cases q45_1 : st = 0
  · refine rdV (w0 := (wRR G ad o (k, s0, s1, mp, md))) (As := [.int st]) (rest := []) CF (k0_X6_streamOf l G ad o (k, s0, s1, mp, md) st q45_1) (cwV 1 hts gX6_offer_X6_streamOf rfl rfl rfl (by decide +kernel) ⟨Nat.le_of_ble_eq_true rfl, Nat.le_of_ble_eq_true rfl⟩) hP hY rfl rfl rfl hl.1 rfl (lv_room (Nat.le_of_ble_eq_true rfl)) dX6_offer_45 ⟨Nat.zero_le _, Nat.zero_le _⟩ ?_
    refine lv_astore (lv' := [(7, .ref (ad (o+1))), (0, .ref (ad o)), (1, .int st), (2, .int ia), (3, .int wa), (4, .int gr), (5, .int fa), (6, .int sa)]) hx hb dX6_offer_48 hl (by decide) rfl (fun ls hl => ?_)
    refine lv_aload hx hb dX6_offer_50 (lv_at hl 0 rfl) ?_
    have hQ2 := va_P.subm (u := wStr G ad (o+1) s0) (fun q h => by simp only [wRR, List.mem_cons, List.mem_append, h, true_or, or_true]) hP
    refine va_getN (D := G.1) (ci := 5) (v := .int s0.2.2.1) (C := RX5) (T := TX5) (N := 11) hx hb hts hiX5 hown hY.1 hQ2 0 rfl rfl 10 (by decide) (va_Nw.use rfl (hY.2.1 (.fieldLinkNest RX6 47 RX5 "taken" "I" RX6) (List.mem_of_getElem? (i := 11) rfl))) (fun _ h9 => h9) rfl dX6_offer_52 ?_
    refine lv_sipush (v := 300) hx hb dX6_offer_55 (by decide) ?_
    refine lv_icmp_ge (tgt := 65) hx hb dX6_offer_58 (by decide) (fun h58_3 => ?_) (fun h58_3 => ?_)
    · exact absurd h58_3 (by simpa only [rrStr, eq_true q45_1, ↓reduceIte] using hs)
    · refine lv_iconst (v := 1) hx hb dX6_offer_61 (by decide) ?_
      refine lv_goto (tgt := 66) hx hb dX6_offer_62 (by decide) ?_
      refine rvS (w0 := []) (As := [.int 1]) (rest := []) CF (k_X6_checkState l G 1 (by decide)) (va_cwS 1 hts gX6_offer_X6_checkState rfl rfl rfl (by decide +kernel) ⟨Nat.le_of_ble_eq_true rfl, Nat.le_of_ble_eq_true rfl⟩) va_P_nil hY rfl hl.1 rfl (lv_room (Nat.le_of_ble_eq_true rfl)) dX6_offer_66 ⟨Nat.zero_le _, Nat.zero_le _⟩ ?_
      refine lv_aload hx hb dX6_offer_69 (lv_at hl 0 rfl) ?_
      refine lv_iload_n hx hb dX6_offer_71 rfl (lv_at hl 3 rfl) ?_
      refine lv_iload_n hx hb dX6_offer_72 rfl (lv_at hl 4 rfl) ?_
      refine lv_iload hx hb dX6_offer_73 (lv_at hl 5 rfl) ?_
      refine lv_iload hx hb dX6_offer_75 (lv_at hl 6 rfl) ?_
      refine lv_iload hx hb dX6_offer_77 (lv_at hl 7 rfl) ?_
      have eW4 : (wRR G ad o (k, s0, s1, mp, md)) = ([(ad o, .inr (6, [.ref (ad (o+1)), .ref (ad (o+32)), .ref (ad (o+63)), .ref (ad (o+68)), .int k]))] : va_W) ++ ((wStr G ad (o+1) s0) ++ (wStr G ad (o+32) s1 ++ (wPri G ad (o+63) mp ++ (wDis G ad (o+68) md)) : va_W)) := by simp only [wRR, List.cons_append, List.append_assoc, List.nil_append, List.append_nil]
      rw [eW4] at hP hD
      refine wrV ([(ad o, .inr (6, [.ref (ad (o+1)), .ref (ad (o+32)), .ref (ad (o+63)), .ref (ad (o+68)), .int k]))] : va_W) (wStr G ad (o+1) s0) (wStr G ad (o+32) s1 ++ (wPri G ad (o+63) mp ++ (wDis G ad (o+68) md)) : va_W) (wStr G ad (o+1) (strTake s0 ia wa gr fa sa)) (As := [.int ia, .int wa, .int gr, .int fa, .int sa]) (rest := []) CF (k_X5_take l G ad (o+1) s0 ia wa gr fa sa) (cwV 5 hts gX6_offer_X5_take rfl rfl rfl (by decide +kernel) ⟨Nat.le_of_ble_eq_true rfl, Nat.le_of_ble_eq_true rfl⟩) hP hD hS hA hY rfl rfl (fst_Str _ _ _ _ _) rfl hl.1 rfl (lv_room (Nat.le_of_ble_eq_true rfl)) dX6_offer_79 ⟨Nat.zero_le _, Nat.zero_le _⟩ (fun H locs hP hD hS => ?_)
      have eV4 : ([(ad o, .inr (6, [.ref (ad (o+1)), .ref (ad (o+32)), .ref (ad (o+63)), .ref (ad (o+68)), .int k]))] : va_W) ++ ((wStr G ad (o+1) (strTake s0 ia wa gr fa sa)) ++ (wStr G ad (o+32) s1 ++ (wPri G ad (o+63) mp ++ (wDis G ad (o+68) md)) : va_W)) = (wRR G ad o (k, strTake s0 ia wa gr fa sa, s1, mp, md)) := by simp only [wRR, List.cons_append, List.append_assoc, List.nil_append, List.append_nil]
      rw [eV4] at hP hD
      refine lv_aload hx hb dX6_offer_82 (lv_at hl 0 rfl) ?_
      have hQ5 := va_P.subm (u := wStr G ad (o+1) (strTake s0 ia wa gr fa sa)) (fun q h => by simp only [wRR, List.mem_cons, List.mem_append, h, true_or, or_true]) hP
      refine va_getN (D := G.1) (ci := 5) (v := .int ((strTake s0 ia wa gr fa sa).2.2.1)) (C := RX5) (T := TX5) (N := 11) hx hb hts hiX5 hown hY.1 hQ5 0 rfl rfl 10 (by decide) (va_Nw.use rfl (hY.2.1 (.fieldLinkNest RX6 47 RX5 "taken" "I" RX6) (List.mem_of_getElem? (i := 11) rfl))) (fun _ h9 => h9) rfl dX6_offer_84 ?_
      exact wr_iret hx hb hr hlk hS hP (by first | with_reducible rfl | (simp only [rrSet, rrStr, sld_eq, eq_true q45_1, h58_3, ↓reduceIte]; done)) (by first | with_reducible rfl | (simp only [rrSet, rrStr, sld_eq, eq_true q45_1, h58_3, ↓reduceIte]; done)) dX6_offer_87
  · refine rdV (w0 := (wRR G ad o (k, s0, s1, mp, md))) (As := [.int st]) (rest := []) CF (k1_X6_streamOf l G ad o (k, s0, s1, mp, md) st q45_1) (cwV 1 hts gX6_offer_X6_streamOf rfl rfl rfl (by decide +kernel) ⟨Nat.le_of_ble_eq_true rfl, Nat.le_of_ble_eq_true rfl⟩) hP hY rfl rfl rfl hl.1 rfl (lv_room (Nat.le_of_ble_eq_true rfl)) dX6_offer_45 ⟨Nat.zero_le _, Nat.zero_le _⟩ ?_
    refine lv_astore (lv' := [(7, .ref (ad (o+32))), (0, .ref (ad o)), (1, .int st), (2, .int ia), (3, .int wa), (4, .int gr), (5, .int fa), (6, .int sa)]) hx hb dX6_offer_48 hl (by decide) rfl (fun ls hl => ?_)
    refine lv_aload hx hb dX6_offer_50 (lv_at hl 0 rfl) ?_
    have hQ6 := va_P.subm (u := wStr G ad (o+32) s1) (fun q h => by simp only [wRR, List.mem_cons, List.mem_append, h, true_or, or_true]) hP
    refine va_getN (D := G.1) (ci := 5) (v := .int s1.2.2.1) (C := RX5) (T := TX5) (N := 11) hx hb hts hiX5 hown hY.1 hQ6 0 rfl rfl 10 (by decide) (va_Nw.use rfl (hY.2.1 (.fieldLinkNest RX6 47 RX5 "taken" "I" RX6) (List.mem_of_getElem? (i := 11) rfl))) (fun _ h9 => h9) rfl dX6_offer_52 ?_
    refine lv_sipush (v := 300) hx hb dX6_offer_55 (by decide) ?_
    refine lv_icmp_ge (tgt := 65) hx hb dX6_offer_58 (by decide) (fun h58_7 => ?_) (fun h58_7 => ?_)
    · exact absurd h58_7 (by simpa only [rrStr, q45_1, ↓reduceIte] using hs)
    · refine lv_iconst (v := 1) hx hb dX6_offer_61 (by decide) ?_
      refine lv_goto (tgt := 66) hx hb dX6_offer_62 (by decide) ?_
      refine rvS (w0 := []) (As := [.int 1]) (rest := []) CF (k_X6_checkState l G 1 (by decide)) (va_cwS 1 hts gX6_offer_X6_checkState rfl rfl rfl (by decide +kernel) ⟨Nat.le_of_ble_eq_true rfl, Nat.le_of_ble_eq_true rfl⟩) va_P_nil hY rfl hl.1 rfl (lv_room (Nat.le_of_ble_eq_true rfl)) dX6_offer_66 ⟨Nat.zero_le _, Nat.zero_le _⟩ ?_
      refine lv_aload hx hb dX6_offer_69 (lv_at hl 0 rfl) ?_
      refine lv_iload_n hx hb dX6_offer_71 rfl (lv_at hl 3 rfl) ?_
      refine lv_iload_n hx hb dX6_offer_72 rfl (lv_at hl 4 rfl) ?_
      refine lv_iload hx hb dX6_offer_73 (lv_at hl 5 rfl) ?_
      refine lv_iload hx hb dX6_offer_75 (lv_at hl 6 rfl) ?_
      refine lv_iload hx hb dX6_offer_77 (lv_at hl 7 rfl) ?_
      have eW8 : (wRR G ad o (k, s0, s1, mp, md)) = (((ad o, .inr (6, [.ref (ad (o+1)), .ref (ad (o+32)), .ref (ad (o+63)), .ref (ad (o+68)), .int k]))) :: (wStr G ad (o+1) s0) : va_W) ++ ((wStr G ad (o+32) s1) ++ (wPri G ad (o+63) mp ++ (wDis G ad (o+68) md) : va_W)) := by simp only [wRR, List.cons_append, List.append_assoc, List.nil_append, List.append_nil]
      rw [eW8] at hP hD
      refine wrV (((ad o, .inr (6, [.ref (ad (o+1)), .ref (ad (o+32)), .ref (ad (o+63)), .ref (ad (o+68)), .int k]))) :: (wStr G ad (o+1) s0) : va_W) (wStr G ad (o+32) s1) (wPri G ad (o+63) mp ++ (wDis G ad (o+68) md) : va_W) (wStr G ad (o+32) (strTake s1 ia wa gr fa sa)) (As := [.int ia, .int wa, .int gr, .int fa, .int sa]) (rest := []) CF (k_X5_take l G ad (o+32) s1 ia wa gr fa sa) (cwV 5 hts gX6_offer_X5_take rfl rfl rfl (by decide +kernel) ⟨Nat.le_of_ble_eq_true rfl, Nat.le_of_ble_eq_true rfl⟩) hP hD hS hA hY rfl rfl (fst_Str _ _ _ _ _) rfl hl.1 rfl (lv_room (Nat.le_of_ble_eq_true rfl)) dX6_offer_79 ⟨Nat.zero_le _, Nat.zero_le _⟩ (fun H locs hP hD hS => ?_)
      have eV8 : (((ad o, .inr (6, [.ref (ad (o+1)), .ref (ad (o+32)), .ref (ad (o+63)), .ref (ad (o+68)), .int k]))) :: (wStr G ad (o+1) s0) : va_W) ++ ((wStr G ad (o+32) (strTake s1 ia wa gr fa sa)) ++ (wPri G ad (o+63) mp ++ (wDis G ad (o+68) md) : va_W)) = (wRR G ad o (k, s0, strTake s1 ia wa gr fa sa, mp, md)) := by simp only [wRR, List.cons_append, List.append_assoc, List.nil_append, List.append_nil]
      rw [eV8] at hP hD
      refine lv_aload hx hb dX6_offer_82 (lv_at hl 0 rfl) ?_
      have hQ9 := va_P.subm (u := wStr G ad (o+32) (strTake s1 ia wa gr fa sa)) (fun q h => by simp only [wRR, List.mem_cons, List.mem_append, h, true_or, or_true]) hP
      refine va_getN (D := G.1) (ci := 5) (v := .int ((strTake s1 ia wa gr fa sa).2.2.1)) (C := RX5) (T := TX5) (N := 11) hx hb hts hiX5 hown hY.1 hQ9 0 rfl rfl 10 (by decide) (va_Nw.use rfl (hY.2.1 (.fieldLinkNest RX6 47 RX5 "taken" "I" RX6) (List.mem_of_getElem? (i := 11) rfl))) (fun _ h9 => h9) rfl dX6_offer_84 ?_
      exact wr_iret hx hb hr hlk hS hP (by first | with_reducible rfl | (simp only [rrSet, rrStr, sld_eq, q45_1, h58_7, ↓reduceIte]; done)) (by first | with_reducible rfl | (simp only [rrSet, rrStr, sld_eq, q45_1, h58_7, ↓reduceIte]; done)) dX6_offer_87

set_option maxHeartbeats 4000000 in
set_option maxRecDepth 100000 in
theorem kn_X6_offer (l : Launch) (hl0 : l.stackTraces = false) (G : GT) (ad : Nat → Nat) (o : Nat) (sg : RRT) (st ia wa gr fa sa : Int32) (hk : ¬ (okA st 0 1 ∧ okA ia 0 1000000 ∧ okA wa 1 1000000 ∧ okA gr 0 3 ∧ okA fa 0 2147483647 ∧ okA sa 0 2147483647)) : No l yX6_offer wsX6_offer { frames := 7, cells := 1, slots := 6, locals := 122 } G (wRR G ad o sg) (wRR G ad o sg) [.ref (ad o), .int st, .int ia, .int wa, .int gr, .int fa, .int sa] "java/lang/IllegalArgumentException" := by
  intro sz
  obtain ⟨k, s0, s1, mp, md⟩ := sg
  refine vx_ofW (cc := cX6_offer) (maxL := 8) (ret := (some .int)) (by decide) rfl ?_
  intro p e s m args below meth c s₁ B hml ht hv
  obtain ⟨rfl, hsz, hP, hY, hD0, hZ0⟩ := hv
  subst hsz
  have hD := hD0.self (sz := s.heap.size)
  generalize hAe : va_A (wRR G ad o (k, s0, s1, mp, md)) s.heap.size = A at hD hZ0 ⊢
  have hZ : Zs A s s.heap := hZ0
  have hA : ∀ q : Nat, s.heap.size ≤ q → A q := fun q h => by rw [← hAe]; exact Or.inr h
  have hS : va_S A s.heap s.heap [] := va_S.rf
  have hx := B.exec
  have hb := B.bytes
  have hr := B.returns
  have hts := atoms_spec (ws := wsX6_offer) B.pre
  have hown : s.vm.findClass RX6 = some m.cls := findClass_of_methodNamed B.named
  have hlk := B.notSynchronized
  have CF : CallFix p m c cX6_offer 8 s _ wsX6_offer RX6 := ⟨hx, hb, hml, hown, hts⟩
  have kc41 := hts (.constant RX6 41 (1000000)) (List.mem_cons_of_mem _ (List.mem_append_left _ (List.mem_append_left _ (List.mem_append_left _ (List.mem_append_left _ (List.mem_append_left _ (List.mem_append_left _ (List.mem_append_left _ (List.mem_append_left _ (List.mem_append_left _ (List.mem_append_left _ (List.mem_of_getElem? (i := 0) rfl))))))))))))
  have kc42 := hts (.constant RX6 42 (2147483647)) (List.mem_cons_of_mem _ (List.mem_append_left _ (List.mem_append_left _ (List.mem_append_left _ (List.mem_append_left _ (List.mem_append_left _ (List.mem_append_left _ (List.mem_append_left _ (List.mem_append_left _ (List.mem_append_left _ (List.mem_append_left _ (List.mem_of_getElem? (i := 1) rfl))))))))))))
  have hl := lv_entry ([.ref (ad o), .int st, .int ia, .int wa, .int gr, .int fa, .int sa]) (n := 8) (Nat.le_of_ble_eq_true rfl)
  rw [lg_entry_eq]
  generalize (lg_sl ([.ref (ad o), .int st, .int ia, .int wa, .int gr, .int fa, .int sa]) ++ List.replicate (8 - (lg_sl ([.ref (ad o), .int st, .int ia, .int wa, .int gr, .int fa, .int sa])).length) Slot.unset).toArray = ls at hl ⊢
  have hl : lv_has ls 8 [(0, .ref (ad o)), (1, .int st), (2, .int ia), (3, .int wa), (4, .int gr), (5, .int fa), (6, .int sa)] := hl
  refine lv_iload_n hx hb dX6_offer_0 rfl (lv_at hl 1 rfl) ?_
  refine lv_iconst (v := 0) hx hb dX6_offer_1 (by decide) ?_
  refine lv_iconst (v := 1) hx hb dX6_offer_2 (by decide) ?_
  by_cases q3_1 : okA st 0 1
  · refine rvS (w0 := []) (As := [.int st, .int 0, .int 1]) (rest := []) CF (k_X6_checkArgument l G st 0 1 q3_1) (va_cwS 3 hts gX6_offer_X6_checkArgument rfl rfl rfl (by decide +kernel) ⟨Nat.le_of_ble_eq_true rfl, Nat.le_of_ble_eq_true rfl⟩) va_P_nil hY rfl hl.1 rfl (lv_room (Nat.le_of_ble_eq_true rfl)) dX6_offer_3 ⟨Nat.zero_le _, Nat.zero_le _⟩ ?_
    refine lv_iload_n hx hb dX6_offer_6 rfl (lv_at hl 2 rfl) ?_
    refine lv_iconst (v := 0) hx hb dX6_offer_7 (by decide) ?_
    refine lv_ldc hx hb hown kc41 dX6_offer_8 ?_
    by_cases q10_2 : okA ia 0 1000000
    · refine rvS (w0 := []) (As := [.int ia, .int 0, .int 1000000]) (rest := []) CF (k_X6_checkArgument l G ia 0 1000000 q10_2) (va_cwS 3 hts gX6_offer_X6_checkArgument rfl rfl rfl (by decide +kernel) ⟨Nat.le_of_ble_eq_true rfl, Nat.le_of_ble_eq_true rfl⟩) va_P_nil hY rfl hl.1 rfl (lv_room (Nat.le_of_ble_eq_true rfl)) dX6_offer_10 ⟨Nat.zero_le _, Nat.zero_le _⟩ ?_
      refine lv_iload_n hx hb dX6_offer_13 rfl (lv_at hl 3 rfl) ?_
      refine lv_iconst (v := 1) hx hb dX6_offer_14 (by decide) ?_
      refine lv_ldc hx hb hown kc41 dX6_offer_15 ?_
      by_cases q17_3 : okA wa 1 1000000
      · refine rvS (w0 := []) (As := [.int wa, .int 1, .int 1000000]) (rest := []) CF (k_X6_checkArgument l G wa 1 1000000 q17_3) (va_cwS 3 hts gX6_offer_X6_checkArgument rfl rfl rfl (by decide +kernel) ⟨Nat.le_of_ble_eq_true rfl, Nat.le_of_ble_eq_true rfl⟩) va_P_nil hY rfl hl.1 rfl (lv_room (Nat.le_of_ble_eq_true rfl)) dX6_offer_17 ⟨Nat.zero_le _, Nat.zero_le _⟩ ?_
        refine lv_iload hx hb dX6_offer_20 (lv_at hl 4 rfl) ?_
        refine lv_iconst (v := 0) hx hb dX6_offer_22 (by decide) ?_
        refine lv_iconst (v := 3) hx hb dX6_offer_23 (by decide) ?_
        by_cases q24_4 : okA gr 0 3
        · refine rvS (w0 := []) (As := [.int gr, .int 0, .int 3]) (rest := []) CF (k_X6_checkArgument l G gr 0 3 q24_4) (va_cwS 3 hts gX6_offer_X6_checkArgument rfl rfl rfl (by decide +kernel) ⟨Nat.le_of_ble_eq_true rfl, Nat.le_of_ble_eq_true rfl⟩) va_P_nil hY rfl hl.1 rfl (lv_room (Nat.le_of_ble_eq_true rfl)) dX6_offer_24 ⟨Nat.zero_le _, Nat.zero_le _⟩ ?_
          refine lv_iload hx hb dX6_offer_27 (lv_at hl 5 rfl) ?_
          refine lv_iconst (v := 0) hx hb dX6_offer_29 (by decide) ?_
          refine lv_ldc hx hb hown kc42 dX6_offer_30 ?_
          by_cases q32_5 : okA fa 0 2147483647
          · refine rvS (w0 := []) (As := [.int fa, .int 0, .int 2147483647]) (rest := []) CF (k_X6_checkArgument l G fa 0 2147483647 q32_5) (va_cwS 3 hts gX6_offer_X6_checkArgument rfl rfl rfl (by decide +kernel) ⟨Nat.le_of_ble_eq_true rfl, Nat.le_of_ble_eq_true rfl⟩) va_P_nil hY rfl hl.1 rfl (lv_room (Nat.le_of_ble_eq_true rfl)) dX6_offer_32 ⟨Nat.zero_le _, Nat.zero_le _⟩ ?_
            refine lv_iload hx hb dX6_offer_35 (lv_at hl 6 rfl) ?_
            refine lv_iconst (v := 0) hx hb dX6_offer_37 (by decide) ?_
            refine lv_ldc hx hb hown kc42 dX6_offer_38 ?_
            by_cases q40_6 : okA sa 0 2147483647
            · refine rvS (w0 := []) (As := [.int sa, .int 0, .int 2147483647]) (rest := []) CF (k_X6_checkArgument l G sa 0 2147483647 q40_6) (va_cwS 3 hts gX6_offer_X6_checkArgument rfl rfl rfl (by decide +kernel) ⟨Nat.le_of_ble_eq_true rfl, Nat.le_of_ble_eq_true rfl⟩) va_P_nil hY rfl hl.1 rfl (lv_room (Nat.le_of_ble_eq_true rfl)) dX6_offer_40 ⟨Nat.zero_le _, Nat.zero_le _⟩ ?_
              exact absurd ⟨q3_1, q10_2, q17_3, q24_4, q32_5, q40_6⟩ hk
            · refine noS0 (As := [.int sa, .int 0, .int 2147483647]) (rest := []) CF (kn_X6_checkArgument l hl0 G sa 0 2147483647 q40_6) (va_cwS 3 hts gX6_offer_X6_checkArgument rfl rfl rfl (by decide +kernel) ⟨Nat.le_of_ble_eq_true rfl, Nat.le_of_ble_eq_true rfl⟩) hP hD hS hA hY hZ rfl hl.1 rfl (lv_room (Nat.le_of_ble_eq_true rfl)) dX6_offer_40 ⟨Nat.le_of_ble_eq_true rfl, Nat.le_of_ble_eq_true rfl⟩ (fun ce q9 H locs hP hD hS hce hcv hcl hgr => ?_)
              exact no_out ht hlk hce hcv hcl hgr hS hP (by first | with_reducible rfl | (simp only [rrSet, rrStr, sld_eq, q3_1, q10_2, q17_3, q24_4, q32_5, q40_6, ↓reduceIte]; done))
          · refine noS0 (As := [.int fa, .int 0, .int 2147483647]) (rest := []) CF (kn_X6_checkArgument l hl0 G fa 0 2147483647 q32_5) (va_cwS 3 hts gX6_offer_X6_checkArgument rfl rfl rfl (by decide +kernel) ⟨Nat.le_of_ble_eq_true rfl, Nat.le_of_ble_eq_true rfl⟩) hP hD hS hA hY hZ rfl hl.1 rfl (lv_room (Nat.le_of_ble_eq_true rfl)) dX6_offer_32 ⟨Nat.le_of_ble_eq_true rfl, Nat.le_of_ble_eq_true rfl⟩ (fun ce q9 H locs hP hD hS hce hcv hcl hgr => ?_)
            exact no_out ht hlk hce hcv hcl hgr hS hP (by first | with_reducible rfl | (simp only [rrSet, rrStr, sld_eq, q3_1, q10_2, q17_3, q24_4, q32_5, ↓reduceIte]; done))
        · refine noS0 (As := [.int gr, .int 0, .int 3]) (rest := []) CF (kn_X6_checkArgument l hl0 G gr 0 3 q24_4) (va_cwS 3 hts gX6_offer_X6_checkArgument rfl rfl rfl (by decide +kernel) ⟨Nat.le_of_ble_eq_true rfl, Nat.le_of_ble_eq_true rfl⟩) hP hD hS hA hY hZ rfl hl.1 rfl (lv_room (Nat.le_of_ble_eq_true rfl)) dX6_offer_24 ⟨Nat.le_of_ble_eq_true rfl, Nat.le_of_ble_eq_true rfl⟩ (fun ce q9 H locs hP hD hS hce hcv hcl hgr => ?_)
          exact no_out ht hlk hce hcv hcl hgr hS hP (by first | with_reducible rfl | (simp only [rrSet, rrStr, sld_eq, q3_1, q10_2, q17_3, q24_4, ↓reduceIte]; done))
      · refine noS0 (As := [.int wa, .int 1, .int 1000000]) (rest := []) CF (kn_X6_checkArgument l hl0 G wa 1 1000000 q17_3) (va_cwS 3 hts gX6_offer_X6_checkArgument rfl rfl rfl (by decide +kernel) ⟨Nat.le_of_ble_eq_true rfl, Nat.le_of_ble_eq_true rfl⟩) hP hD hS hA hY hZ rfl hl.1 rfl (lv_room (Nat.le_of_ble_eq_true rfl)) dX6_offer_17 ⟨Nat.le_of_ble_eq_true rfl, Nat.le_of_ble_eq_true rfl⟩ (fun ce q9 H locs hP hD hS hce hcv hcl hgr => ?_)
        exact no_out ht hlk hce hcv hcl hgr hS hP (by first | with_reducible rfl | (simp only [rrSet, rrStr, sld_eq, q3_1, q10_2, q17_3, ↓reduceIte]; done))
    · refine noS0 (As := [.int ia, .int 0, .int 1000000]) (rest := []) CF (kn_X6_checkArgument l hl0 G ia 0 1000000 q10_2) (va_cwS 3 hts gX6_offer_X6_checkArgument rfl rfl rfl (by decide +kernel) ⟨Nat.le_of_ble_eq_true rfl, Nat.le_of_ble_eq_true rfl⟩) hP hD hS hA hY hZ rfl hl.1 rfl (lv_room (Nat.le_of_ble_eq_true rfl)) dX6_offer_10 ⟨Nat.le_of_ble_eq_true rfl, Nat.le_of_ble_eq_true rfl⟩ (fun ce q9 H locs hP hD hS hce hcv hcl hgr => ?_)
      exact no_out ht hlk hce hcv hcl hgr hS hP (by first | with_reducible rfl | (simp only [rrSet, rrStr, sld_eq, q3_1, q10_2, ↓reduceIte]; done))
  · refine noS0 (As := [.int st, .int 0, .int 1]) (rest := []) CF (kn_X6_checkArgument l hl0 G st 0 1 q3_1) (va_cwS 3 hts gX6_offer_X6_checkArgument rfl rfl rfl (by decide +kernel) ⟨Nat.le_of_ble_eq_true rfl, Nat.le_of_ble_eq_true rfl⟩) hP hD hS hA hY hZ rfl hl.1 rfl (lv_room (Nat.le_of_ble_eq_true rfl)) dX6_offer_3 ⟨Nat.le_of_ble_eq_true rfl, Nat.le_of_ble_eq_true rfl⟩ (fun ce q9 H locs hP hD hS hce hcv hcl hgr => ?_)
    exact no_out ht hlk hce hcv hcl hgr hS hP (by first | with_reducible rfl | (simp only [rrSet, rrStr, sld_eq, q3_1, ↓reduceIte]; done))

set_option maxHeartbeats 4000000 in
set_option maxRecDepth 100000 in
theorem kn2_X6_offer (l : Launch) (hl0 : l.stackTraces = false) (G : GT) (ad : Nat → Nat) (o : Nat) (sg : RRT) (st ia wa gr fa sa : Int32) (h0 : okA st 0 1) (h1 : okA ia 0 1000000) (h2 : okA wa 1 1000000) (h3 : okA gr 0 3) (h4 : okA fa 0 2147483647) (h5 : okA sa 0 2147483647) (hs : 300 ≤ (rrStr sg st).2.2.1) : No l yX6_offer wsX6_offer { frames := 7, cells := 1, slots := 6, locals := 122 } G (wRR G ad o sg) (wRR G ad o sg) [.ref (ad o), .int st, .int ia, .int wa, .int gr, .int fa, .int sa] "java/lang/IllegalStateException" := by
  intro sz
  obtain ⟨k, s0, s1, mp, md⟩ := sg
  refine vx_ofW (cc := cX6_offer) (maxL := 8) (ret := (some .int)) (by decide) rfl ?_
  intro p e s m args below meth c s₁ B hml ht hv
  obtain ⟨rfl, hsz, hP, hY, hD0, hZ0⟩ := hv
  subst hsz
  have hD := hD0.self (sz := s.heap.size)
  generalize hAe : va_A (wRR G ad o (k, s0, s1, mp, md)) s.heap.size = A at hD hZ0 ⊢
  have hZ : Zs A s s.heap := hZ0
  have hA : ∀ q : Nat, s.heap.size ≤ q → A q := fun q h => by rw [← hAe]; exact Or.inr h
  have hS : va_S A s.heap s.heap [] := va_S.rf
  have hx := B.exec
  have hb := B.bytes
  have hr := B.returns
  have hts := atoms_spec (ws := wsX6_offer) B.pre
  have hown : s.vm.findClass RX6 = some m.cls := findClass_of_methodNamed B.named
  have hlk := B.notSynchronized
  have CF : CallFix p m c cX6_offer 8 s _ wsX6_offer RX6 := ⟨hx, hb, hml, hown, hts⟩
  have kc41 := hts (.constant RX6 41 (1000000)) (List.mem_cons_of_mem _ (List.mem_append_left _ (List.mem_append_left _ (List.mem_append_left _ (List.mem_append_left _ (List.mem_append_left _ (List.mem_append_left _ (List.mem_append_left _ (List.mem_append_left _ (List.mem_append_left _ (List.mem_append_left _ (List.mem_of_getElem? (i := 0) rfl))))))))))))
  have kc42 := hts (.constant RX6 42 (2147483647)) (List.mem_cons_of_mem _ (List.mem_append_left _ (List.mem_append_left _ (List.mem_append_left _ (List.mem_append_left _ (List.mem_append_left _ (List.mem_append_left _ (List.mem_append_left _ (List.mem_append_left _ (List.mem_append_left _ (List.mem_append_left _ (List.mem_of_getElem? (i := 1) rfl))))))))))))
  have hiX5 : ∀ w ∈ wsX50, w ∈ wsX6_offer := fun w h => (List.mem_cons_of_mem _ (List.mem_append_left _ (List.mem_append_left _ (List.mem_append_left _ (List.mem_append_left _ (List.mem_append_left _ (List.mem_append_left _ (List.mem_append_left _ (List.mem_append_left _ (List.mem_append_right _ h))))))))))
  have hl := lv_entry ([.ref (ad o), .int st, .int ia, .int wa, .int gr, .int fa, .int sa]) (n := 8) (Nat.le_of_ble_eq_true rfl)
  rw [lg_entry_eq]
  generalize (lg_sl ([.ref (ad o), .int st, .int ia, .int wa, .int gr, .int fa, .int sa]) ++ List.replicate (8 - (lg_sl ([.ref (ad o), .int st, .int ia, .int wa, .int gr, .int fa, .int sa])).length) Slot.unset).toArray = ls at hl ⊢
  have hl : lv_has ls 8 [(0, .ref (ad o)), (1, .int st), (2, .int ia), (3, .int wa), (4, .int gr), (5, .int fa), (6, .int sa)] := hl
  refine lv_iload_n hx hb dX6_offer_0 rfl (lv_at hl 1 rfl) ?_
  refine lv_iconst (v := 0) hx hb dX6_offer_1 (by decide) ?_
  refine lv_iconst (v := 1) hx hb dX6_offer_2 (by decide) ?_
  refine rvS (w0 := []) (As := [.int st, .int 0, .int 1]) (rest := []) CF (k_X6_checkArgument l G st 0 1 h0) (va_cwS 3 hts gX6_offer_X6_checkArgument rfl rfl rfl (by decide +kernel) ⟨Nat.le_of_ble_eq_true rfl, Nat.le_of_ble_eq_true rfl⟩) va_P_nil hY rfl hl.1 rfl (lv_room (Nat.le_of_ble_eq_true rfl)) dX6_offer_3 ⟨Nat.zero_le _, Nat.zero_le _⟩ ?_
  refine lv_iload_n hx hb dX6_offer_6 rfl (lv_at hl 2 rfl) ?_
  refine lv_iconst (v := 0) hx hb dX6_offer_7 (by decide) ?_
  refine lv_ldc hx hb hown kc41 dX6_offer_8 ?_
  refine rvS (w0 := []) (As := [.int ia, .int 0, .int 1000000]) (rest := []) CF (k_X6_checkArgument l G ia 0 1000000 h1) (va_cwS 3 hts gX6_offer_X6_checkArgument rfl rfl rfl (by decide +kernel) ⟨Nat.le_of_ble_eq_true rfl, Nat.le_of_ble_eq_true rfl⟩) va_P_nil hY rfl hl.1 rfl (lv_room (Nat.le_of_ble_eq_true rfl)) dX6_offer_10 ⟨Nat.zero_le _, Nat.zero_le _⟩ ?_
  refine lv_iload_n hx hb dX6_offer_13 rfl (lv_at hl 3 rfl) ?_
  refine lv_iconst (v := 1) hx hb dX6_offer_14 (by decide) ?_
  refine lv_ldc hx hb hown kc41 dX6_offer_15 ?_
  refine rvS (w0 := []) (As := [.int wa, .int 1, .int 1000000]) (rest := []) CF (k_X6_checkArgument l G wa 1 1000000 h2) (va_cwS 3 hts gX6_offer_X6_checkArgument rfl rfl rfl (by decide +kernel) ⟨Nat.le_of_ble_eq_true rfl, Nat.le_of_ble_eq_true rfl⟩) va_P_nil hY rfl hl.1 rfl (lv_room (Nat.le_of_ble_eq_true rfl)) dX6_offer_17 ⟨Nat.zero_le _, Nat.zero_le _⟩ ?_
  refine lv_iload hx hb dX6_offer_20 (lv_at hl 4 rfl) ?_
  refine lv_iconst (v := 0) hx hb dX6_offer_22 (by decide) ?_
  refine lv_iconst (v := 3) hx hb dX6_offer_23 (by decide) ?_
  refine rvS (w0 := []) (As := [.int gr, .int 0, .int 3]) (rest := []) CF (k_X6_checkArgument l G gr 0 3 h3) (va_cwS 3 hts gX6_offer_X6_checkArgument rfl rfl rfl (by decide +kernel) ⟨Nat.le_of_ble_eq_true rfl, Nat.le_of_ble_eq_true rfl⟩) va_P_nil hY rfl hl.1 rfl (lv_room (Nat.le_of_ble_eq_true rfl)) dX6_offer_24 ⟨Nat.zero_le _, Nat.zero_le _⟩ ?_
  refine lv_iload hx hb dX6_offer_27 (lv_at hl 5 rfl) ?_
  refine lv_iconst (v := 0) hx hb dX6_offer_29 (by decide) ?_
  refine lv_ldc hx hb hown kc42 dX6_offer_30 ?_
  refine rvS (w0 := []) (As := [.int fa, .int 0, .int 2147483647]) (rest := []) CF (k_X6_checkArgument l G fa 0 2147483647 h4) (va_cwS 3 hts gX6_offer_X6_checkArgument rfl rfl rfl (by decide +kernel) ⟨Nat.le_of_ble_eq_true rfl, Nat.le_of_ble_eq_true rfl⟩) va_P_nil hY rfl hl.1 rfl (lv_room (Nat.le_of_ble_eq_true rfl)) dX6_offer_32 ⟨Nat.zero_le _, Nat.zero_le _⟩ ?_
  refine lv_iload hx hb dX6_offer_35 (lv_at hl 6 rfl) ?_
  refine lv_iconst (v := 0) hx hb dX6_offer_37 (by decide) ?_
  refine lv_ldc hx hb hown kc42 dX6_offer_38 ?_
  refine rvS (w0 := []) (As := [.int sa, .int 0, .int 2147483647]) (rest := []) CF (k_X6_checkArgument l G sa 0 2147483647 h5) (va_cwS 3 hts gX6_offer_X6_checkArgument rfl rfl rfl (by decide +kernel) ⟨Nat.le_of_ble_eq_true rfl, Nat.le_of_ble_eq_true rfl⟩) va_P_nil hY rfl hl.1 rfl (lv_room (Nat.le_of_ble_eq_true rfl)) dX6_offer_40 ⟨Nat.zero_le _, Nat.zero_le _⟩ ?_
  refine lv_aload_n hx hb dX6_offer_43 rfl (lv_at hl 0 rfl) ?_
  refine lv_iload_n hx hb dX6_offer_44 rfl (lv_at hl 1 rfl) ?_
  by_cases q45_1 : st = 0
  · refine rdV (w0 := (wRR G ad o (k, s0, s1, mp, md))) (As := [.int st]) (rest := []) CF (k0_X6_streamOf l G ad o (k, s0, s1, mp, md) st q45_1) (cwV 1 hts gX6_offer_X6_streamOf rfl rfl rfl (by decide +kernel) ⟨Nat.le_of_ble_eq_true rfl, Nat.le_of_ble_eq_true rfl⟩) hP hY rfl rfl rfl hl.1 rfl (lv_room (Nat.le_of_ble_eq_true rfl)) dX6_offer_45 ⟨Nat.zero_le _, Nat.zero_le _⟩ ?_
    refine lv_astore (lv' := [(7, .ref (ad (o+1))), (0, .ref (ad o)), (1, .int st), (2, .int ia), (3, .int wa), (4, .int gr), (5, .int fa), (6, .int sa)]) hx hb dX6_offer_48 hl (by decide) rfl (fun ls hl => ?_)
    refine lv_aload hx hb dX6_offer_50 (lv_at hl 0 rfl) ?_
    have hQ2 := va_P.subm (u := wStr G ad (o+1) s0) (fun q h => by simp only [wRR, List.mem_cons, List.mem_append, h, true_or, or_true]) hP
    refine va_getN (D := G.1) (ci := 5) (v := .int s0.2.2.1) (C := RX5) (T := TX5) (N := 11) hx hb hts hiX5 hown hY.1 hQ2 0 rfl rfl 10 (by decide) (va_Nw.use rfl (hY.2.1 (.fieldLinkNest RX6 47 RX5 "taken" "I" RX6) (List.mem_of_getElem? (i := 11) rfl))) (fun _ h9 => h9) rfl dX6_offer_52 ?_
    refine lv_sipush (v := 300) hx hb dX6_offer_55 (by decide) ?_
    refine lv_icmp_ge (tgt := 65) hx hb dX6_offer_58 (by decide) (fun h58_3 => ?_) (fun h58_3 => ?_)
    · refine lv_iconst (v := 0) hx hb dX6_offer_65 (by decide) ?_
      refine noS0 (As := [.int 0]) (rest := []) CF (kn_X6_checkState l hl0 G 0 (fun h => h rfl)) (va_cwS 1 hts gX6_offer_X6_checkState rfl rfl rfl (by decide +kernel) ⟨Nat.le_of_ble_eq_true rfl, Nat.le_of_ble_eq_true rfl⟩) hP hD hS hA hY hZ rfl hl.1 rfl (lv_room (Nat.le_of_ble_eq_true rfl)) dX6_offer_66 ⟨Nat.le_of_ble_eq_true rfl, Nat.le_of_ble_eq_true rfl⟩ (fun ce q9 H locs hP hD hS hce hcv hcl hgr => ?_)
      exact no_out ht hlk hce hcv hcl hgr hS hP (by first | with_reducible rfl | (simp only [rrSet, rrStr, sld_eq, eq_true q45_1, h58_3, ↓reduceIte]; done))
    · exact absurd (by simpa only [rrStr, eq_true q45_1, ↓reduceIte] using hs) h58_3
  · refine rdV (w0 := (wRR G ad o (k, s0, s1, mp, md))) (As := [.int st]) (rest := []) CF (k1_X6_streamOf l G ad o (k, s0, s1, mp, md) st q45_1) (cwV 1 hts gX6_offer_X6_streamOf rfl rfl rfl (by decide +kernel) ⟨Nat.le_of_ble_eq_true rfl, Nat.le_of_ble_eq_true rfl⟩) hP hY rfl rfl rfl hl.1 rfl (lv_room (Nat.le_of_ble_eq_true rfl)) dX6_offer_45 ⟨Nat.zero_le _, Nat.zero_le _⟩ ?_
    refine lv_astore (lv' := [(7, .ref (ad (o+32))), (0, .ref (ad o)), (1, .int st), (2, .int ia), (3, .int wa), (4, .int gr), (5, .int fa), (6, .int sa)]) hx hb dX6_offer_48 hl (by decide) rfl (fun ls hl => ?_)
    refine lv_aload hx hb dX6_offer_50 (lv_at hl 0 rfl) ?_
    have hQ4 := va_P.subm (u := wStr G ad (o+32) s1) (fun q h => by simp only [wRR, List.mem_cons, List.mem_append, h, true_or, or_true]) hP
    refine va_getN (D := G.1) (ci := 5) (v := .int s1.2.2.1) (C := RX5) (T := TX5) (N := 11) hx hb hts hiX5 hown hY.1 hQ4 0 rfl rfl 10 (by decide) (va_Nw.use rfl (hY.2.1 (.fieldLinkNest RX6 47 RX5 "taken" "I" RX6) (List.mem_of_getElem? (i := 11) rfl))) (fun _ h9 => h9) rfl dX6_offer_52 ?_
    refine lv_sipush (v := 300) hx hb dX6_offer_55 (by decide) ?_
    refine lv_icmp_ge (tgt := 65) hx hb dX6_offer_58 (by decide) (fun h58_5 => ?_) (fun h58_5 => ?_)
    · refine lv_iconst (v := 0) hx hb dX6_offer_65 (by decide) ?_
      refine noS0 (As := [.int 0]) (rest := []) CF (kn_X6_checkState l hl0 G 0 (fun h => h rfl)) (va_cwS 1 hts gX6_offer_X6_checkState rfl rfl rfl (by decide +kernel) ⟨Nat.le_of_ble_eq_true rfl, Nat.le_of_ble_eq_true rfl⟩) hP hD hS hA hY hZ rfl hl.1 rfl (lv_room (Nat.le_of_ble_eq_true rfl)) dX6_offer_66 ⟨Nat.le_of_ble_eq_true rfl, Nat.le_of_ble_eq_true rfl⟩ (fun ce q9 H locs hP hD hS hce hcv hcl hgr => ?_)
      exact no_out ht hlk hce hcv hcl hgr hS hP (by first | with_reducible rfl | (simp only [rrSet, rrStr, sld_eq, q45_1, h58_5, ↓reduceIte]; done))
    · exact absurd (by simpa only [rrStr, q45_1, ↓reduceIte] using hs) h58_5

set_option maxHeartbeats 4000000 in
set_option maxRecDepth 100000 in
theorem k_X6_clear (l : Launch) (G : GT) (ad : Nat → Nat) (o : Nat) (sg : RRT) (st : Int32) (h0 : okA st 0 1) : Wr l yX6_clear wsX6_clear { frames := 7, cells := 0, slots := 0, locals := 122 } G (wRR G ad o sg) (wRR G ad o (rrSet sg st (strEmpty (rrStr sg st)))) [.ref (ad o), .int st] (some (.int ((rrStr sg st).2.2.1))) := by
  intro sz
  obtain ⟨k, s0, s1, mp, md⟩ := sg
  refine Met.ofW (cc := cX6_clear) (maxL := 4) (ret := (some .int)) (by decide) rfl ?_
  intro p e s m args below meth c s₁ B hml hv
  obtain ⟨rfl, hsz, hP, hY, hD0⟩ := hv
  subst hsz
  have hD := hD0.self (sz := s.heap.size)
  generalize hAe : va_A (wRR G ad o (k, s0, s1, mp, md)) s.heap.size = A at hD ⊢
  have hA : ∀ q : Nat, s.heap.size ≤ q → A q := fun q h => by rw [← hAe]; exact Or.inr h
  have hS : va_S A s.heap s.heap [] := va_S.rf
  have hx := B.exec
  have hb := B.bytes
  have hr := B.returns
  have hts := atoms_spec (ws := wsX6_clear) B.pre
  have hown : s.vm.findClass RX6 = some m.cls := findClass_of_methodNamed B.named
  have hlk := B.notSynchronized
  have CF : CallFix p m c cX6_clear 4 s _ wsX6_clear RX6 := ⟨hx, hb, hml, hown, hts⟩
  have hiX5 : ∀ w ∈ wsX50, w ∈ wsX6_clear := fun w h => (List.mem_cons_of_mem _ (List.mem_append_left _ (List.mem_append_left _ (List.mem_append_left _ (List.mem_append_left _ (List.mem_append_left _ (List.mem_append_left _ (List.mem_append_left _ (List.mem_append_right _ h)))))))))
  have hl := lv_entry ([.ref (ad o), .int st]) (n := 4) (Nat.le_of_ble_eq_true rfl)
  rw [lg_entry_eq]
  generalize (lg_sl ([.ref (ad o), .int st]) ++ List.replicate (4 - (lg_sl ([.ref (ad o), .int st])).length) Slot.unset).toArray = ls at hl ⊢
  have hl : lv_has ls 4 [(0, .ref (ad o)), (1, .int st)] := hl
  refine lv_iload_n hx hb dX6_clear_0 rfl (lv_at hl 1 rfl) ?_
  refine lv_iconst (v := 0) hx hb dX6_clear_1 (by decide) ?_
  refine lv_iconst (v := 1) hx hb dX6_clear_2 (by decide) ?_
  refine rvS (w0 := []) (As := [.int st, .int 0, .int 1]) (rest := []) CF (k_X6_checkArgument l G st 0 1 h0) (va_cwS 3 hts gX6_clear_X6_checkArgument rfl rfl rfl (by decide +kernel) ⟨Nat.le_of_ble_eq_true rfl, Nat.le_of_ble_eq_true rfl⟩) va_P_nil hY rfl hl.1 rfl (lv_room (Nat.le_of_ble_eq_true rfl)) dX6_clear_3 ⟨Nat.zero_le _, Nat.zero_le _⟩ ?_
  refine lv_aload_n hx hb dX6_clear_6 rfl (lv_at hl 0 rfl) ?_
  refine lv_iload_n hx hb dX6_clear_7 rfl (lv_at hl 1 rfl) ?_
  by_cases q8_1 : st = 0
  · refine rdV (w0 := (wRR G ad o (k, s0, s1, mp, md))) (As := [.int st]) (rest := []) CF (k0_X6_streamOf l G ad o (k, s0, s1, mp, md) st q8_1) (cwV 1 hts gX6_clear_X6_streamOf rfl rfl rfl (by decide +kernel) ⟨Nat.le_of_ble_eq_true rfl, Nat.le_of_ble_eq_true rfl⟩) hP hY rfl rfl rfl hl.1 rfl (lv_room (Nat.le_of_ble_eq_true rfl)) dX6_clear_8 ⟨Nat.zero_le _, Nat.zero_le _⟩ ?_
    refine lv_astore_n (lv' := [(2, .ref (ad (o+1))), (0, .ref (ad o)), (1, .int st)]) hx hb dX6_clear_11 rfl hl (by decide) rfl (fun ls hl => ?_)
    refine lv_aload_n hx hb dX6_clear_12 rfl (lv_at hl 0 rfl) ?_
    have hQ2 := va_P.subm (u := wStr G ad (o+1) s0) (fun q h => by simp only [wRR, List.mem_cons, List.mem_append, h, true_or, or_true]) hP
    refine va_getN (D := G.1) (ci := 5) (v := .int s0.2.2.1) (C := RX5) (T := TX5) (N := 11) hx hb hts hiX5 hown hY.1 hQ2 0 rfl rfl 10 (by decide) (va_Nw.use rfl (hY.2.1 (.fieldLinkNest RX6 47 RX5 "taken" "I" RX6) (List.mem_of_getElem? (i := 11) rfl))) (fun _ h9 => h9) rfl dX6_clear_13 ?_
    refine lv_istore_n (lv' := [(3, .int s0.2.2.1), (2, .ref (ad (o+1))), (0, .ref (ad o)), (1, .int st)]) hx hb dX6_clear_16 rfl hl (by decide) rfl (fun ls hl => ?_)
    refine lv_aload_n hx hb dX6_clear_17 rfl (lv_at hl 1 rfl) ?_
    have eW3 : (wRR G ad o (k, s0, s1, mp, md)) = ([(ad o, .inr (6, [.ref (ad (o+1)), .ref (ad (o+32)), .ref (ad (o+63)), .ref (ad (o+68)), .int k]))] : va_W) ++ ((wStr G ad (o+1) s0) ++ (wStr G ad (o+32) s1 ++ (wPri G ad (o+63) mp ++ (wDis G ad (o+68) md)) : va_W)) := by simp only [wRR, List.cons_append, List.append_assoc, List.nil_append, List.append_nil]
    rw [eW3] at hP hD
    refine wrV ([(ad o, .inr (6, [.ref (ad (o+1)), .ref (ad (o+32)), .ref (ad (o+63)), .ref (ad (o+68)), .int k]))] : va_W) (wStr G ad (o+1) s0) (wStr G ad (o+32) s1 ++ (wPri G ad (o+63) mp ++ (wDis G ad (o+68) md)) : va_W) (wStr G ad (o+1) (strEmpty s0)) (As := []) (rest := []) CF (k_X5_makeEmpty l G ad (o+1) s0) (cwV 0 hts gX6_clear_X5_makeEmpty rfl rfl rfl (by decide +kernel) ⟨Nat.le_of_ble_eq_true rfl, Nat.le_of_ble_eq_true rfl⟩) hP hD hS hA hY rfl rfl (fst_Str _ _ _ _ _) rfl hl.1 rfl (lv_room (Nat.le_of_ble_eq_true rfl)) dX6_clear_18 ⟨Nat.zero_le _, Nat.zero_le _⟩ (fun H locs hP hD hS => ?_)
    have eV3 : ([(ad o, .inr (6, [.ref (ad (o+1)), .ref (ad (o+32)), .ref (ad (o+63)), .ref (ad (o+68)), .int k]))] : va_W) ++ ((wStr G ad (o+1) (strEmpty s0)) ++ (wStr G ad (o+32) s1 ++ (wPri G ad (o+63) mp ++ (wDis G ad (o+68) md)) : va_W)) = (wRR G ad o (k, strEmpty s0, s1, mp, md)) := by simp only [wRR, List.cons_append, List.append_assoc, List.nil_append, List.append_nil]
    rw [eV3] at hP hD
    refine lv_iload_n hx hb dX6_clear_21 rfl (lv_at hl 0 rfl) ?_
    exact wr_iret hx hb hr hlk hS hP (by first | with_reducible rfl | (simp only [rrSet, rrStr, sld_eq, eq_true q8_1, ↓reduceIte]; done)) (by first | with_reducible rfl | (simp only [rrSet, rrStr, sld_eq, eq_true q8_1, ↓reduceIte]; done)) dX6_clear_22
  · refine rdV (w0 := (wRR G ad o (k, s0, s1, mp, md))) (As := [.int st]) (rest := []) CF (k1_X6_streamOf l G ad o (k, s0, s1, mp, md) st q8_1) (cwV 1 hts gX6_clear_X6_streamOf rfl rfl rfl (by decide +kernel) ⟨Nat.le_of_ble_eq_true rfl, Nat.le_of_ble_eq_true rfl⟩) hP hY rfl rfl rfl hl.1 rfl (lv_room (Nat.le_of_ble_eq_true rfl)) dX6_clear_8 ⟨Nat.zero_le _, Nat.zero_le _⟩ ?_
    refine lv_astore_n (lv' := [(2, .ref (ad (o+32))), (0, .ref (ad o)), (1, .int st)]) hx hb dX6_clear_11 rfl hl (by decide) rfl (fun ls hl => ?_)
    refine lv_aload_n hx hb dX6_clear_12 rfl (lv_at hl 0 rfl) ?_
    have hQ4 := va_P.subm (u := wStr G ad (o+32) s1) (fun q h => by simp only [wRR, List.mem_cons, List.mem_append, h, true_or, or_true]) hP
    refine va_getN (D := G.1) (ci := 5) (v := .int s1.2.2.1) (C := RX5) (T := TX5) (N := 11) hx hb hts hiX5 hown hY.1 hQ4 0 rfl rfl 10 (by decide) (va_Nw.use rfl (hY.2.1 (.fieldLinkNest RX6 47 RX5 "taken" "I" RX6) (List.mem_of_getElem? (i := 11) rfl))) (fun _ h9 => h9) rfl dX6_clear_13 ?_
    refine lv_istore_n (lv' := [(3, .int s1.2.2.1), (2, .ref (ad (o+32))), (0, .ref (ad o)), (1, .int st)]) hx hb dX6_clear_16 rfl hl (by decide) rfl (fun ls hl => ?_)
    refine lv_aload_n hx hb dX6_clear_17 rfl (lv_at hl 1 rfl) ?_
    have eW5 : (wRR G ad o (k, s0, s1, mp, md)) = (((ad o, .inr (6, [.ref (ad (o+1)), .ref (ad (o+32)), .ref (ad (o+63)), .ref (ad (o+68)), .int k]))) :: (wStr G ad (o+1) s0) : va_W) ++ ((wStr G ad (o+32) s1) ++ (wPri G ad (o+63) mp ++ (wDis G ad (o+68) md) : va_W)) := by simp only [wRR, List.cons_append, List.append_assoc, List.nil_append, List.append_nil]
    rw [eW5] at hP hD
    refine wrV (((ad o, .inr (6, [.ref (ad (o+1)), .ref (ad (o+32)), .ref (ad (o+63)), .ref (ad (o+68)), .int k]))) :: (wStr G ad (o+1) s0) : va_W) (wStr G ad (o+32) s1) (wPri G ad (o+63) mp ++ (wDis G ad (o+68) md) : va_W) (wStr G ad (o+32) (strEmpty s1)) (As := []) (rest := []) CF (k_X5_makeEmpty l G ad (o+32) s1) (cwV 0 hts gX6_clear_X5_makeEmpty rfl rfl rfl (by decide +kernel) ⟨Nat.le_of_ble_eq_true rfl, Nat.le_of_ble_eq_true rfl⟩) hP hD hS hA hY rfl rfl (fst_Str _ _ _ _ _) rfl hl.1 rfl (lv_room (Nat.le_of_ble_eq_true rfl)) dX6_clear_18 ⟨Nat.zero_le _, Nat.zero_le _⟩ (fun H locs hP hD hS => ?_)
    have eV5 : (((ad o, .inr (6, [.ref (ad (o+1)), .ref (ad (o+32)), .ref (ad (o+63)), .ref (ad (o+68)), .int k]))) :: (wStr G ad (o+1) s0) : va_W) ++ ((wStr G ad (o+32) (strEmpty s1)) ++ (wPri G ad (o+63) mp ++ (wDis G ad (o+68) md) : va_W)) = (wRR G ad o (k, s0, strEmpty s1, mp, md)) := by simp only [wRR, List.cons_append, List.append_assoc, List.nil_append, List.append_nil]
    rw [eV5] at hP hD
    refine lv_iload_n hx hb dX6_clear_21 rfl (lv_at hl 0 rfl) ?_
    exact wr_iret hx hb hr hlk hS hP (by first | with_reducible rfl | (simp only [rrSet, rrStr, sld_eq, q8_1, ↓reduceIte]; done)) (by first | with_reducible rfl | (simp only [rrSet, rrStr, sld_eq, q8_1, ↓reduceIte]; done)) dX6_clear_22

set_option maxHeartbeats 4000000 in
set_option maxRecDepth 100000 in
theorem kn_X6_clear (l : Launch) (hl0 : l.stackTraces = false) (G : GT) (ad : Nat → Nat) (o : Nat) (sg : RRT) (st : Int32) (hk : ¬ (okA st 0 1)) : No l yX6_clear wsX6_clear { frames := 7, cells := 1, slots := 6, locals := 122 } G (wRR G ad o sg) (wRR G ad o sg) [.ref (ad o), .int st] "java/lang/IllegalArgumentException" := by
  intro sz
  obtain ⟨k, s0, s1, mp, md⟩ := sg
  refine vx_ofW (cc := cX6_clear) (maxL := 4) (ret := (some .int)) (by decide) rfl ?_
  intro p e s m args below meth c s₁ B hml ht hv
  obtain ⟨rfl, hsz, hP, hY, hD0, hZ0⟩ := hv
  subst hsz
  have hD := hD0.self (sz := s.heap.size)
  generalize hAe : va_A (wRR G ad o (k, s0, s1, mp, md)) s.heap.size = A at hD hZ0 ⊢
  have hZ : Zs A s s.heap := hZ0
  have hA : ∀ q : Nat, s.heap.size ≤ q → A q := fun q h => by rw [← hAe]; exact Or.inr h
  have hS : va_S A s.heap s.heap [] := va_S.rf
  have hx := B.exec
  have hb := B.bytes
  have hr := B.returns
  have hts := atoms_spec (ws := wsX6_clear) B.pre
  have hown : s.vm.findClass RX6 = some m.cls := findClass_of_methodNamed B.named
  have hlk := B.notSynchronized
  have CF : CallFix p m c cX6_clear 4 s _ wsX6_clear RX6 := ⟨hx, hb, hml, hown, hts⟩
  have hl := lv_entry ([.ref (ad o), .int st]) (n := 4) (Nat.le_of_ble_eq_true rfl)
  rw [lg_entry_eq]
  generalize (lg_sl ([.ref (ad o), .int st]) ++ List.replicate (4 - (lg_sl ([.ref (ad o), .int st])).length) Slot.unset).toArray = ls at hl ⊢
  have hl : lv_has ls 4 [(0, .ref (ad o)), (1, .int st)] := hl
  refine lv_iload_n hx hb dX6_clear_0 rfl (lv_at hl 1 rfl) ?_
  refine lv_iconst (v := 0) hx hb dX6_clear_1 (by decide) ?_
  refine lv_iconst (v := 1) hx hb dX6_clear_2 (by decide) ?_
  by_cases q3_1 : okA st 0 1
  · refine rvS (w0 := []) (As := [.int st, .int 0, .int 1]) (rest := []) CF (k_X6_checkArgument l G st 0 1 q3_1) (va_cwS 3 hts gX6_clear_X6_checkArgument rfl rfl rfl (by decide +kernel) ⟨Nat.le_of_ble_eq_true rfl, Nat.le_of_ble_eq_true rfl⟩) va_P_nil hY rfl hl.1 rfl (lv_room (Nat.le_of_ble_eq_true rfl)) dX6_clear_3 ⟨Nat.zero_le _, Nat.zero_le _⟩ ?_
    exact absurd q3_1 hk
  · refine noS0 (As := [.int st, .int 0, .int 1]) (rest := []) CF (kn_X6_checkArgument l hl0 G st 0 1 q3_1) (va_cwS 3 hts gX6_clear_X6_checkArgument rfl rfl rfl (by decide +kernel) ⟨Nat.le_of_ble_eq_true rfl, Nat.le_of_ble_eq_true rfl⟩) hP hD hS hA hY hZ rfl hl.1 rfl (lv_room (Nat.le_of_ble_eq_true rfl)) dX6_clear_3 ⟨Nat.le_of_ble_eq_true rfl, Nat.le_of_ble_eq_true rfl⟩ (fun ce q9 H locs hP hD hS hce hcv hcl hgr => ?_)
    exact no_out ht hlk hce hcv hcl hgr hS hP (by first | with_reducible rfl | (simp only [rrSet, rrStr, sld_eq, q3_1, ↓reduceIte]; done))

set_option maxHeartbeats 4000000 in
set_option maxRecDepth 100000 in
theorem k_X6_offers (l : Launch) (G : GT) (ad : Nat → Nat) (o : Nat) (sg : RRT) (st : Int32) (h0 : okA st 0 2) : Rd l yX6_offers wsX6_offers { frames := 7, cells := 0, slots := 0, locals := 122 } G (wRR G ad o sg) [.ref (ad o), .int st] (.int (if st = 2 then sg.2.1.2.2.1 + sg.2.2.1.2.2.1 else (rrStr sg st).2.2.1)) := by
  obtain ⟨k, s0, s1, mp, md⟩ := sg
  refine Met.ofW (cc := cX6_offers) (maxL := 2) (ret := (some .int)) (by decide) rfl ?_
  intro p e s m args below meth c s₁ B hml hv
  obtain ⟨rfl, hP, hY⟩ := hv
  have hx := B.exec
  have hb := B.bytes
  have hr := B.returns
  have hts := atoms_spec (ws := wsX6_offers) B.pre
  have hown : s.vm.findClass RX6 = some m.cls := findClass_of_methodNamed B.named
  have hlk := B.notSynchronized
  have CF : CallFix p m c cX6_offers 2 s _ wsX6_offers RX6 := ⟨hx, hb, hml, hown, hts⟩
  have hiX5 : ∀ w ∈ wsX50, w ∈ wsX6_offers := fun w h => (List.mem_cons_of_mem _ (List.mem_append_left _ (List.mem_append_right _ h)))
  have hiX6 : ∀ w ∈ wsX60, w ∈ wsX6_offers := fun w h => (List.mem_cons_of_mem _ (List.mem_append_left _ (List.mem_append_left _ (List.mem_append_right _ h))))
  have kf10 := hts (.fieldLink RX6 10 "ReservoirReed" "stream0" "LReservoirReed$Stream;") (List.mem_cons_of_mem _ (List.mem_append_left _ (List.mem_append_left _ (List.mem_append_left _ (List.mem_of_getElem? (i := 0) rfl)))))
  have kf16 := hts (.fieldLink RX6 16 "ReservoirReed" "stream1" "LReservoirReed$Stream;") (List.mem_cons_of_mem _ (List.mem_append_left _ (List.mem_append_left _ (List.mem_append_left _ (List.mem_of_getElem? (i := 1) rfl)))))
  have hl := lv_entry ([.ref (ad o), .int st]) (n := 2) (Nat.le_of_ble_eq_true rfl)
  rw [lg_entry_eq]
  generalize (lg_sl ([.ref (ad o), .int st]) ++ List.replicate (2 - (lg_sl ([.ref (ad o), .int st])).length) Slot.unset).toArray = ls at hl ⊢
  have hl : lv_has ls 2 [(0, .ref (ad o)), (1, .int st)] := hl
  refine lv_iload_n hx hb dX6_offers_0 rfl (lv_at hl 1 rfl) ?_
  refine lv_iconst (v := 0) hx hb dX6_offers_1 (by decide) ?_
  refine lv_iconst (v := 2) hx hb dX6_offers_2 (by decide) ?_
  refine rvS (w0 := []) (As := [.int st, .int 0, .int 2]) (rest := []) CF (k_X6_checkArgument l G st 0 2 h0) (va_cwS 3 hts gX6_offers_X6_checkArgument rfl rfl rfl (by decide +kernel) ⟨Nat.le_of_ble_eq_true rfl, Nat.le_of_ble_eq_true rfl⟩) va_P_nil hY rfl hl.1 rfl (lv_room (Nat.le_of_ble_eq_true rfl)) dX6_offers_3 ⟨Nat.zero_le _, Nat.zero_le _⟩ ?_
  refine lv_iload_n hx hb dX6_offers_6 rfl (lv_at hl 1 rfl) ?_
  refine lv_iconst (v := 2) hx hb dX6_offers_7 (by decide) ?_
  refine lv_icmp_ne (tgt := 27) hx hb dX6_offers_8 (by decide) (fun h8_1 => ?_) (fun h8_1 => ?_)
  · refine lv_aload_n hx hb dX6_offers_27 rfl (lv_at hl 0 rfl) ?_
    refine lv_iload_n hx hb dX6_offers_28 rfl (lv_at hl 1 rfl) ?_
    by_cases q29_2 : st = 0
    · refine rdV (w0 := (wRR G ad o (k, s0, s1, mp, md))) (As := [.int st]) (rest := []) CF (k0_X6_streamOf l G ad o (k, s0, s1, mp, md) st q29_2) (cwV 1 hts gX6_offers_X6_streamOf rfl rfl rfl (by decide +kernel) ⟨Nat.le_of_ble_eq_true rfl, Nat.le_of_ble_eq_true rfl⟩) hP hY rfl rfl rfl hl.1 rfl (lv_room (Nat.le_of_ble_eq_true rfl)) dX6_offers_29 ⟨Nat.zero_le _, Nat.zero_le _⟩ ?_
      have hQ3 := va_P.subm (u := wStr G ad (o+1) s0) (fun q h => by simp only [wRR, List.mem_cons, List.mem_append, h, true_or, or_true]) hP
      refine va_getN (D := G.1) (ci := 5) (v := .int s0.2.2.1) (C := RX5) (T := TX5) (N := 11) hx hb hts hiX5 hown hY.1 hQ3 0 rfl rfl 10 (by decide) (va_Nw.use rfl (hY.2.1 (.fieldLinkNest RX6 47 RX5 "taken" "I" RX6) (List.mem_of_getElem? (i := 11) rfl))) (fun _ h9 => h9) rfl dX6_offers_32 ?_
      exact rd_iret hx hb hr hlk (by first | with_reducible rfl | (simp only [rrStr, sld_eq, h8_1, eq_true q29_2, ↓reduceIte]; done)) dX6_offers_35
    · refine rdV (w0 := (wRR G ad o (k, s0, s1, mp, md))) (As := [.int st]) (rest := []) CF (k1_X6_streamOf l G ad o (k, s0, s1, mp, md) st q29_2) (cwV 1 hts gX6_offers_X6_streamOf rfl rfl rfl (by decide +kernel) ⟨Nat.le_of_ble_eq_true rfl, Nat.le_of_ble_eq_true rfl⟩) hP hY rfl rfl rfl hl.1 rfl (lv_room (Nat.le_of_ble_eq_true rfl)) dX6_offers_29 ⟨Nat.zero_le _, Nat.zero_le _⟩ ?_
      have hQ4 := va_P.subm (u := wStr G ad (o+32) s1) (fun q h => by simp only [wRR, List.mem_cons, List.mem_append, h, true_or, or_true]) hP
      refine va_getN (D := G.1) (ci := 5) (v := .int s1.2.2.1) (C := RX5) (T := TX5) (N := 11) hx hb hts hiX5 hown hY.1 hQ4 0 rfl rfl 10 (by decide) (va_Nw.use rfl (hY.2.1 (.fieldLinkNest RX6 47 RX5 "taken" "I" RX6) (List.mem_of_getElem? (i := 11) rfl))) (fun _ h9 => h9) rfl dX6_offers_32 ?_
      exact rd_iret hx hb hr hlk (by first | with_reducible rfl | (simp only [rrStr, sld_eq, h8_1, q29_2, ↓reduceIte]; done)) dX6_offers_35
  · refine lv_aload_n hx hb dX6_offers_11 rfl (lv_at hl 0 rfl) ?_
    refine va_get (D := G.1) (ci := 6) (v := .ref (ad (o+1))) (C := RX6) (T := TX6) (N := 5) hx hb hts hiX6 hown hY.1 hP 0 rfl rfl 0 (by decide) kf10 (fun _ h9 => h9) rfl dX6_offers_12 ?_
    have hQ5 := va_P.subm (u := wStr G ad (o+1) s0) (fun q h => by simp only [wRR, List.mem_cons, List.mem_append, h, true_or, or_true]) hP
    refine va_getN (D := G.1) (ci := 5) (v := .int s0.2.2.1) (C := RX5) (T := TX5) (N := 11) hx hb hts hiX5 hown hY.1 hQ5 0 rfl rfl 10 (by decide) (va_Nw.use rfl (hY.2.1 (.fieldLinkNest RX6 47 RX5 "taken" "I" RX6) (List.mem_of_getElem? (i := 11) rfl))) (fun _ h9 => h9) rfl dX6_offers_15 ?_
    refine lv_aload_n hx hb dX6_offers_18 rfl (lv_at hl 0 rfl) ?_
    refine va_get (D := G.1) (ci := 6) (v := .ref (ad (o+32))) (C := RX6) (T := TX6) (N := 5) hx hb hts hiX6 hown hY.1 hP 0 rfl rfl 1 (by decide) kf16 (fun _ h9 => h9) rfl dX6_offers_19 ?_
    have hQ6 := va_P.subm (u := wStr G ad (o+32) s1) (fun q h => by simp only [wRR, List.mem_cons, List.mem_append, h, true_or, or_true]) hP
    refine va_getN (D := G.1) (ci := 5) (v := .int s1.2.2.1) (C := RX5) (T := TX5) (N := 11) hx hb hts hiX5 hown hY.1 hQ6 0 rfl rfl 10 (by decide) (va_Nw.use rfl (hY.2.1 (.fieldLinkNest RX6 47 RX5 "taken" "I" RX6) (List.mem_of_getElem? (i := 11) rfl))) (fun _ h9 => h9) rfl dX6_offers_22 ?_
    refine lv_iadd hx hb dX6_offers_25 ?_
    exact rd_iret hx hb hr hlk (by first | with_reducible rfl | (simp only [rrStr, sld_eq, eq_true h8_1, ↓reduceIte]; done)) dX6_offers_26

set_option maxHeartbeats 4000000 in
set_option maxRecDepth 100000 in
theorem kn_X6_offers (l : Launch) (hl0 : l.stackTraces = false) (G : GT) (ad : Nat → Nat) (o : Nat) (sg : RRT) (st : Int32) (hk : ¬ (okA st 0 2)) : No l yX6_offers wsX6_offers { frames := 7, cells := 1, slots := 6, locals := 122 } G (wRR G ad o sg) (wRR G ad o sg) [.ref (ad o), .int st] "java/lang/IllegalArgumentException" := by
  intro sz
  obtain ⟨k, s0, s1, mp, md⟩ := sg
  refine vx_ofW (cc := cX6_offers) (maxL := 2) (ret := (some .int)) (by decide) rfl ?_
  intro p e s m args below meth c s₁ B hml ht hv
  obtain ⟨rfl, hsz, hP, hY, hD0, hZ0⟩ := hv
  subst hsz
  have hD := hD0.self (sz := s.heap.size)
  generalize hAe : va_A (wRR G ad o (k, s0, s1, mp, md)) s.heap.size = A at hD hZ0 ⊢
  have hZ : Zs A s s.heap := hZ0
  have hA : ∀ q : Nat, s.heap.size ≤ q → A q := fun q h => by rw [← hAe]; exact Or.inr h
  have hS : va_S A s.heap s.heap [] := va_S.rf
  have hx := B.exec
  have hb := B.bytes
  have hr := B.returns
  have hts := atoms_spec (ws := wsX6_offers) B.pre
  have hown : s.vm.findClass RX6 = some m.cls := findClass_of_methodNamed B.named
  have hlk := B.notSynchronized
  have CF : CallFix p m c cX6_offers 2 s _ wsX6_offers RX6 := ⟨hx, hb, hml, hown, hts⟩
  have hl := lv_entry ([.ref (ad o), .int st]) (n := 2) (Nat.le_of_ble_eq_true rfl)
  rw [lg_entry_eq]
  generalize (lg_sl ([.ref (ad o), .int st]) ++ List.replicate (2 - (lg_sl ([.ref (ad o), .int st])).length) Slot.unset).toArray = ls at hl ⊢
  have hl : lv_has ls 2 [(0, .ref (ad o)), (1, .int st)] := hl
  refine lv_iload_n hx hb dX6_offers_0 rfl (lv_at hl 1 rfl) ?_
  refine lv_iconst (v := 0) hx hb dX6_offers_1 (by decide) ?_
  refine lv_iconst (v := 2) hx hb dX6_offers_2 (by decide) ?_
  by_cases q3_1 : okA st 0 2
  · refine rvS (w0 := []) (As := [.int st, .int 0, .int 2]) (rest := []) CF (k_X6_checkArgument l G st 0 2 q3_1) (va_cwS 3 hts gX6_offers_X6_checkArgument rfl rfl rfl (by decide +kernel) ⟨Nat.le_of_ble_eq_true rfl, Nat.le_of_ble_eq_true rfl⟩) va_P_nil hY rfl hl.1 rfl (lv_room (Nat.le_of_ble_eq_true rfl)) dX6_offers_3 ⟨Nat.zero_le _, Nat.zero_le _⟩ ?_
    exact absurd q3_1 hk
  · refine noS0 (As := [.int st, .int 0, .int 2]) (rest := []) CF (kn_X6_checkArgument l hl0 G st 0 2 q3_1) (va_cwS 3 hts gX6_offers_X6_checkArgument rfl rfl rfl (by decide +kernel) ⟨Nat.le_of_ble_eq_true rfl, Nat.le_of_ble_eq_true rfl⟩) hP hD hS hA hY hZ rfl hl.1 rfl (lv_room (Nat.le_of_ble_eq_true rfl)) dX6_offers_3 ⟨Nat.le_of_ble_eq_true rfl, Nat.le_of_ble_eq_true rfl⟩ (fun ce q9 H locs hP hD hS hce hcv hcl hgr => ?_)
    exact no_out ht hlk hce hcv hcl hgr hS hP (by first | with_reducible rfl | (simp only [rrStr, sld_eq, q3_1, ↓reduceIte]; done))

set_option maxHeartbeats 4000000 in
set_option maxRecDepth 100000 in
theorem k_X6_exactWeight (l : Launch) (G : GT) (ad : Nat → Nat) (o : Nat) (sg : RRT) (st gr : Int32) (h0 : okA st 0 2) (h1 : okA gr 0 3) : Rd l yX6_exactWeight wsX6_exactWeight { frames := 7, cells := 0, slots := 0, locals := 122 } G (wRR G ad o sg) [.ref (ad o), .int st, .int gr] (.int (if st = 2 then (strGrp sg.2.1 gr).1 + (strGrp sg.2.2.1 gr).1 else (strGrp (rrStr sg st) gr).1)) := by
  obtain ⟨k, s0, s1, mp, md⟩ := sg
  refine Met.ofW (cc := cX6_exactWeight) (maxL := 3) (ret := (some .int)) (by decide) rfl ?_
  intro p e s m args below meth c s₁ B hml hv
  obtain ⟨rfl, hP, hY⟩ := hv
  have hx := B.exec
  have hb := B.bytes
  have hr := B.returns
  have hts := atoms_spec (ws := wsX6_exactWeight) B.pre
  have hown : s.vm.findClass RX6 = some m.cls := findClass_of_methodNamed B.named
  have hlk := B.notSynchronized
  have CF : CallFix p m c cX6_exactWeight 3 s _ wsX6_exactWeight RX6 := ⟨hx, hb, hml, hown, hts⟩
  have hiX2 : ∀ w ∈ wsX20, w ∈ wsX6_exactWeight := fun w h => (List.mem_cons_of_mem _ (List.mem_append_left _ (List.mem_append_left _ (List.mem_append_right _ h))))
  have hiX6 : ∀ w ∈ wsX60, w ∈ wsX6_exactWeight := fun w h => (List.mem_cons_of_mem _ (List.mem_append_left _ (List.mem_append_left _ (List.mem_append_left _ (List.mem_append_right _ h)))))
  have kf10 := hts (.fieldLink RX6 10 "ReservoirReed" "stream0" "LReservoirReed$Stream;") (List.mem_cons_of_mem _ (List.mem_append_left _ (List.mem_append_left _ (List.mem_append_left _ (List.mem_append_left _ (List.mem_of_getElem? (i := 0) rfl))))))
  have kf16 := hts (.fieldLink RX6 16 "ReservoirReed" "stream1" "LReservoirReed$Stream;") (List.mem_cons_of_mem _ (List.mem_append_left _ (List.mem_append_left _ (List.mem_append_left _ (List.mem_append_left _ (List.mem_of_getElem? (i := 1) rfl))))))
  have hl := lv_entry ([.ref (ad o), .int st, .int gr]) (n := 3) (Nat.le_of_ble_eq_true rfl)
  rw [lg_entry_eq]
  generalize (lg_sl ([.ref (ad o), .int st, .int gr]) ++ List.replicate (3 - (lg_sl ([.ref (ad o), .int st, .int gr])).length) Slot.unset).toArray = ls at hl ⊢
  have hl : lv_has ls 3 [(0, .ref (ad o)), (1, .int st), (2, .int gr)] := hl
  refine lv_iload_n hx hb dX6_exactWeight_0 rfl (lv_at hl 1 rfl) ?_
  refine lv_iconst (v := 0) hx hb dX6_exactWeight_1 (by decide) ?_
  refine lv_iconst (v := 2) hx hb dX6_exactWeight_2 (by decide) ?_
  refine rvS (w0 := []) (As := [.int st, .int 0, .int 2]) (rest := []) CF (k_X6_checkArgument l G st 0 2 h0) (va_cwS 3 hts gX6_exactWeight_X6_checkArgument rfl rfl rfl (by decide +kernel) ⟨Nat.le_of_ble_eq_true rfl, Nat.le_of_ble_eq_true rfl⟩) va_P_nil hY rfl hl.1 rfl (lv_room (Nat.le_of_ble_eq_true rfl)) dX6_exactWeight_3 ⟨Nat.zero_le _, Nat.zero_le _⟩ ?_
  refine lv_iload_n hx hb dX6_exactWeight_6 rfl (lv_at hl 2 rfl) ?_
  refine lv_iconst (v := 0) hx hb dX6_exactWeight_7 (by decide) ?_
  refine lv_iconst (v := 3) hx hb dX6_exactWeight_8 (by decide) ?_
  refine rvS (w0 := []) (As := [.int gr, .int 0, .int 3]) (rest := []) CF (k_X6_checkArgument l G gr 0 3 h1) (va_cwS 3 hts gX6_exactWeight_X6_checkArgument rfl rfl rfl (by decide +kernel) ⟨Nat.le_of_ble_eq_true rfl, Nat.le_of_ble_eq_true rfl⟩) va_P_nil hY rfl hl.1 rfl (lv_room (Nat.le_of_ble_eq_true rfl)) dX6_exactWeight_9 ⟨Nat.zero_le _, Nat.zero_le _⟩ ?_
  refine lv_iload_n hx hb dX6_exactWeight_12 rfl (lv_at hl 1 rfl) ?_
  refine lv_iconst (v := 2) hx hb dX6_exactWeight_13 (by decide) ?_
  refine lv_icmp_ne (tgt := 41) hx hb dX6_exactWeight_14 (by decide) (fun h14_1 => ?_) (fun h14_1 => ?_)
  · refine lv_aload_n hx hb dX6_exactWeight_41 rfl (lv_at hl 0 rfl) ?_
    refine lv_iload_n hx hb dX6_exactWeight_42 rfl (lv_at hl 1 rfl) ?_
    by_cases q43_2 : st = 0
    · refine rdV (w0 := (wRR G ad o (k, s0, s1, mp, md))) (As := [.int st]) (rest := []) CF (k0_X6_streamOf l G ad o (k, s0, s1, mp, md) st q43_2) (cwV 1 hts gX6_exactWeight_X6_streamOf rfl rfl rfl (by decide +kernel) ⟨Nat.le_of_ble_eq_true rfl, Nat.le_of_ble_eq_true rfl⟩) hP hY rfl rfl rfl hl.1 rfl (lv_room (Nat.le_of_ble_eq_true rfl)) dX6_exactWeight_43 ⟨Nat.zero_le _, Nat.zero_le _⟩ ?_
      refine lv_iload_n hx hb dX6_exactWeight_46 rfl (lv_at hl 2 rfl) ?_
      by_cases q47_3 : gr = 0
      · have hQ4 := va_P.subm (u := wStr G ad (o+1) s0) (fun q h => by simp only [wRR, List.mem_cons, List.mem_append, h, true_or, or_true]) hP
        refine rdV (w0 := (wStr G ad (o+1) s0)) (As := [.int gr]) (rest := []) CF (k_X5_groupOf l G ad (o+1) s0 gr) (cwV 1 hts gX6_exactWeight_X5_groupOf rfl rfl rfl (by decide +kernel) ⟨Nat.le_of_ble_eq_true rfl, Nat.le_of_ble_eq_true rfl⟩) hQ4 hY rfl rfl rfl hl.1 rfl (lv_room (Nat.le_of_ble_eq_true rfl)) dX6_exactWeight_47 ⟨Nat.zero_le _, Nat.zero_le _⟩ ?_
        rw [show grpRef ad (o+1) gr = ad (o+1+4) from (by simp only [grpRef, eq_true q43_2, eq_true q47_3, ↓reduceIte])]
        have hQ5 := va_P.subm (u := wGrp G ad (o+1+4) s0.2.2.2.2.1) (fun q h => by simp only [wStr, wRR, List.mem_cons, List.mem_append, h, true_or, or_true]) hP
        refine va_getN (D := G.1) (ci := 2) (v := .int s0.2.2.2.2.1.1) (C := RX2) (T := TX2) (N := 2) hx hb hts hiX2 hown hY.1 hQ5 0 rfl rfl 1 (by decide) (va_Nw.use rfl (hY.2.1 (.fieldLinkNest RX6 66 RX2 "weight" "I" RX6) (List.mem_of_getElem? (i := 12) rfl))) (fun _ h9 => h9) rfl dX6_exactWeight_50 ?_
        exact rd_iret hx hb hr hlk (by first | with_reducible rfl | (simp only [rrStr, strGrp, sld_eq, h14_1, eq_true q43_2, eq_true q47_3, ↓reduceIte]; done)) dX6_exactWeight_53
      · by_cases q47_6 : gr = 1
        · have hQ7 := va_P.subm (u := wStr G ad (o+1) s0) (fun q h => by simp only [wRR, List.mem_cons, List.mem_append, h, true_or, or_true]) hP
          refine rdV (w0 := (wStr G ad (o+1) s0)) (As := [.int gr]) (rest := []) CF (k_X5_groupOf l G ad (o+1) s0 gr) (cwV 1 hts gX6_exactWeight_X5_groupOf rfl rfl rfl (by decide +kernel) ⟨Nat.le_of_ble_eq_true rfl, Nat.le_of_ble_eq_true rfl⟩) hQ7 hY rfl rfl rfl hl.1 rfl (lv_room (Nat.le_of_ble_eq_true rfl)) dX6_exactWeight_47 ⟨Nat.zero_le _, Nat.zero_le _⟩ ?_
          rw [show grpRef ad (o+1) gr = ad (o+1+8) from (by simp only [grpRef, eq_true q43_2, q47_3, eq_true q47_6, ↓reduceIte])]
          have hQ8 := va_P.subm (u := wGrp G ad (o+1+8) s0.2.2.2.2.2.1) (fun q h => by simp only [wStr, wRR, List.mem_cons, List.mem_append, h, true_or, or_true]) hP
          refine va_getN (D := G.1) (ci := 2) (v := .int s0.2.2.2.2.2.1.1) (C := RX2) (T := TX2) (N := 2) hx hb hts hiX2 hown hY.1 hQ8 0 rfl rfl 1 (by decide) (va_Nw.use rfl (hY.2.1 (.fieldLinkNest RX6 66 RX2 "weight" "I" RX6) (List.mem_of_getElem? (i := 12) rfl))) (fun _ h9 => h9) rfl dX6_exactWeight_50 ?_
          exact rd_iret hx hb hr hlk (by first | with_reducible rfl | (simp only [rrStr, strGrp, sld_eq, h14_1, eq_true q43_2, q47_3, eq_true q47_6, ↓reduceIte]; done)) dX6_exactWeight_53
        · by_cases q47_9 : gr = 2
          · have hQ10 := va_P.subm (u := wStr G ad (o+1) s0) (fun q h => by simp only [wRR, List.mem_cons, List.mem_append, h, true_or, or_true]) hP
            refine rdV (w0 := (wStr G ad (o+1) s0)) (As := [.int gr]) (rest := []) CF (k_X5_groupOf l G ad (o+1) s0 gr) (cwV 1 hts gX6_exactWeight_X5_groupOf rfl rfl rfl (by decide +kernel) ⟨Nat.le_of_ble_eq_true rfl, Nat.le_of_ble_eq_true rfl⟩) hQ10 hY rfl rfl rfl hl.1 rfl (lv_room (Nat.le_of_ble_eq_true rfl)) dX6_exactWeight_47 ⟨Nat.zero_le _, Nat.zero_le _⟩ ?_
            rw [show grpRef ad (o+1) gr = ad (o+1+12) from (by simp only [grpRef, eq_true q43_2, q47_3, q47_6, eq_true q47_9, ↓reduceIte])]
            have hQ11 := va_P.subm (u := wGrp G ad (o+1+12) s0.2.2.2.2.2.2.1) (fun q h => by simp only [wStr, wRR, List.mem_cons, List.mem_append, h, true_or, or_true]) hP
            refine va_getN (D := G.1) (ci := 2) (v := .int s0.2.2.2.2.2.2.1.1) (C := RX2) (T := TX2) (N := 2) hx hb hts hiX2 hown hY.1 hQ11 0 rfl rfl 1 (by decide) (va_Nw.use rfl (hY.2.1 (.fieldLinkNest RX6 66 RX2 "weight" "I" RX6) (List.mem_of_getElem? (i := 12) rfl))) (fun _ h9 => h9) rfl dX6_exactWeight_50 ?_
            exact rd_iret hx hb hr hlk (by first | with_reducible rfl | (simp only [rrStr, strGrp, sld_eq, h14_1, eq_true q43_2, q47_3, q47_6, eq_true q47_9, ↓reduceIte]; done)) dX6_exactWeight_53
          · have hQ12 := va_P.subm (u := wStr G ad (o+1) s0) (fun q h => by simp only [wRR, List.mem_cons, List.mem_append, h, true_or, or_true]) hP
            refine rdV (w0 := (wStr G ad (o+1) s0)) (As := [.int gr]) (rest := []) CF (k_X5_groupOf l G ad (o+1) s0 gr) (cwV 1 hts gX6_exactWeight_X5_groupOf rfl rfl rfl (by decide +kernel) ⟨Nat.le_of_ble_eq_true rfl, Nat.le_of_ble_eq_true rfl⟩) hQ12 hY rfl rfl rfl hl.1 rfl (lv_room (Nat.le_of_ble_eq_true rfl)) dX6_exactWeight_47 ⟨Nat.zero_le _, Nat.zero_le _⟩ ?_
            rw [show grpRef ad (o+1) gr = ad (o+1+16) from (by simp only [grpRef, eq_true q43_2, q47_3, q47_6, q47_9, ↓reduceIte])]
            have hQ13 := va_P.subm (u := wGrp G ad (o+1+16) s0.2.2.2.2.2.2.2.1) (fun q h => by simp only [wStr, wRR, List.mem_cons, List.mem_append, h, true_or, or_true]) hP
            refine va_getN (D := G.1) (ci := 2) (v := .int s0.2.2.2.2.2.2.2.1.1) (C := RX2) (T := TX2) (N := 2) hx hb hts hiX2 hown hY.1 hQ13 0 rfl rfl 1 (by decide) (va_Nw.use rfl (hY.2.1 (.fieldLinkNest RX6 66 RX2 "weight" "I" RX6) (List.mem_of_getElem? (i := 12) rfl))) (fun _ h9 => h9) rfl dX6_exactWeight_50 ?_
            exact rd_iret hx hb hr hlk (by first | with_reducible rfl | (simp only [rrStr, strGrp, sld_eq, h14_1, eq_true q43_2, q47_3, q47_6, q47_9, ↓reduceIte]; done)) dX6_exactWeight_53
    · refine rdV (w0 := (wRR G ad o (k, s0, s1, mp, md))) (As := [.int st]) (rest := []) CF (k1_X6_streamOf l G ad o (k, s0, s1, mp, md) st q43_2) (cwV 1 hts gX6_exactWeight_X6_streamOf rfl rfl rfl (by decide +kernel) ⟨Nat.le_of_ble_eq_true rfl, Nat.le_of_ble_eq_true rfl⟩) hP hY rfl rfl rfl hl.1 rfl (lv_room (Nat.le_of_ble_eq_true rfl)) dX6_exactWeight_43 ⟨Nat.zero_le _, Nat.zero_le _⟩ ?_
      refine lv_iload_n hx hb dX6_exactWeight_46 rfl (lv_at hl 2 rfl) ?_
      by_cases q47_14 : gr = 0
      · have hQ15 := va_P.subm (u := wStr G ad (o+32) s1) (fun q h => by simp only [wRR, List.mem_cons, List.mem_append, h, true_or, or_true]) hP
        refine rdV (w0 := (wStr G ad (o+32) s1)) (As := [.int gr]) (rest := []) CF (k_X5_groupOf l G ad (o+32) s1 gr) (cwV 1 hts gX6_exactWeight_X5_groupOf rfl rfl rfl (by decide +kernel) ⟨Nat.le_of_ble_eq_true rfl, Nat.le_of_ble_eq_true rfl⟩) hQ15 hY rfl rfl rfl hl.1 rfl (lv_room (Nat.le_of_ble_eq_true rfl)) dX6_exactWeight_47 ⟨Nat.zero_le _, Nat.zero_le _⟩ ?_
        rw [show grpRef ad (o+32) gr = ad (o+32+4) from (by simp only [grpRef, q43_2, eq_true q47_14, ↓reduceIte])]
        have hQ16 := va_P.subm (u := wGrp G ad (o+32+4) s1.2.2.2.2.1) (fun q h => by simp only [wStr, wRR, List.mem_cons, List.mem_append, h, true_or, or_true]) hP
        refine va_getN (D := G.1) (ci := 2) (v := .int s1.2.2.2.2.1.1) (C := RX2) (T := TX2) (N := 2) hx hb hts hiX2 hown hY.1 hQ16 0 rfl rfl 1 (by decide) (va_Nw.use rfl (hY.2.1 (.fieldLinkNest RX6 66 RX2 "weight" "I" RX6) (List.mem_of_getElem? (i := 12) rfl))) (fun _ h9 => h9) rfl dX6_exactWeight_50 ?_
        exact rd_iret hx hb hr hlk (by first | with_reducible rfl | (simp only [rrStr, strGrp, sld_eq, h14_1, q43_2, eq_true q47_14, ↓reduceIte]; done)) dX6_exactWeight_53
      · by_cases q47_17 : gr = 1
        · have hQ18 := va_P.subm (u := wStr G ad (o+32) s1) (fun q h => by simp only [wRR, List.mem_cons, List.mem_append, h, true_or, or_true]) hP
          refine rdV (w0 := (wStr G ad (o+32) s1)) (As := [.int gr]) (rest := []) CF (k_X5_groupOf l G ad (o+32) s1 gr) (cwV 1 hts gX6_exactWeight_X5_groupOf rfl rfl rfl (by decide +kernel) ⟨Nat.le_of_ble_eq_true rfl, Nat.le_of_ble_eq_true rfl⟩) hQ18 hY rfl rfl rfl hl.1 rfl (lv_room (Nat.le_of_ble_eq_true rfl)) dX6_exactWeight_47 ⟨Nat.zero_le _, Nat.zero_le _⟩ ?_
          rw [show grpRef ad (o+32) gr = ad (o+32+8) from (by simp only [grpRef, q43_2, q47_14, eq_true q47_17, ↓reduceIte])]
          have hQ19 := va_P.subm (u := wGrp G ad (o+32+8) s1.2.2.2.2.2.1) (fun q h => by simp only [wStr, wRR, List.mem_cons, List.mem_append, h, true_or, or_true]) hP
          refine va_getN (D := G.1) (ci := 2) (v := .int s1.2.2.2.2.2.1.1) (C := RX2) (T := TX2) (N := 2) hx hb hts hiX2 hown hY.1 hQ19 0 rfl rfl 1 (by decide) (va_Nw.use rfl (hY.2.1 (.fieldLinkNest RX6 66 RX2 "weight" "I" RX6) (List.mem_of_getElem? (i := 12) rfl))) (fun _ h9 => h9) rfl dX6_exactWeight_50 ?_
          exact rd_iret hx hb hr hlk (by first | with_reducible rfl | (simp only [rrStr, strGrp, sld_eq, h14_1, q43_2, q47_14, eq_true q47_17, ↓reduceIte]; done)) dX6_exactWeight_53
        · by_cases q47_20 : gr = 2
          · have hQ21 := va_P.subm (u := wStr G ad (o+32) s1) (fun q h => by simp only [wRR, List.mem_cons, List.mem_append, h, true_or, or_true]) hP
            refine rdV (w0 := (wStr G ad (o+32) s1)) (As := [.int gr]) (rest := []) CF (k_X5_groupOf l G ad (o+32) s1 gr) (cwV 1 hts gX6_exactWeight_X5_groupOf rfl rfl rfl (by decide +kernel) ⟨Nat.le_of_ble_eq_true rfl, Nat.le_of_ble_eq_true rfl⟩) hQ21 hY rfl rfl rfl hl.1 rfl (lv_room (Nat.le_of_ble_eq_true rfl)) dX6_exactWeight_47 ⟨Nat.zero_le _, Nat.zero_le _⟩ ?_
            rw [show grpRef ad (o+32) gr = ad (o+32+12) from (by simp only [grpRef, q43_2, q47_14, q47_17, eq_true q47_20, ↓reduceIte])]
            have hQ22 := va_P.subm (u := wGrp G ad (o+32+12) s1.2.2.2.2.2.2.1) (fun q h => by simp only [wStr, wRR, List.mem_cons, List.mem_append, h, true_or, or_true]) hP
            refine va_getN (D := G.1) (ci := 2) (v := .int s1.2.2.2.2.2.2.1.1) (C := RX2) (T := TX2) (N := 2) hx hb hts hiX2 hown hY.1 hQ22 0 rfl rfl 1 (by decide) (va_Nw.use rfl (hY.2.1 (.fieldLinkNest RX6 66 RX2 "weight" "I" RX6) (List.mem_of_getElem? (i := 12) rfl))) (fun _ h9 => h9) rfl dX6_exactWeight_50 ?_
            exact rd_iret hx hb hr hlk (by first | with_reducible rfl | (simp only [rrStr, strGrp, sld_eq, h14_1, q43_2, q47_14, q47_17, eq_true q47_20, ↓reduceIte]; done)) dX6_exactWeight_53
          · have hQ23 := va_P.subm (u := wStr G ad (o+32) s1) (fun q h => by simp only [wRR, List.mem_cons, List.mem_append, h, true_or, or_true]) hP
            refine rdV (w0 := (wStr G ad (o+32) s1)) (As := [.int gr]) (rest := []) CF (k_X5_groupOf l G ad (o+32) s1 gr) (cwV 1 hts gX6_exactWeight_X5_groupOf rfl rfl rfl (by decide +kernel) ⟨Nat.le_of_ble_eq_true rfl, Nat.le_of_ble_eq_true rfl⟩) hQ23 hY rfl rfl rfl hl.1 rfl (lv_room (Nat.le_of_ble_eq_true rfl)) dX6_exactWeight_47 ⟨Nat.zero_le _, Nat.zero_le _⟩ ?_
            rw [show grpRef ad (o+32) gr = ad (o+32+16) from (by simp only [grpRef, q43_2, q47_14, q47_17, q47_20, ↓reduceIte])]
            have hQ24 := va_P.subm (u := wGrp G ad (o+32+16) s1.2.2.2.2.2.2.2.1) (fun q h => by simp only [wStr, wRR, List.mem_cons, List.mem_append, h, true_or, or_true]) hP
            refine va_getN (D := G.1) (ci := 2) (v := .int s1.2.2.2.2.2.2.2.1.1) (C := RX2) (T := TX2) (N := 2) hx hb hts hiX2 hown hY.1 hQ24 0 rfl rfl 1 (by decide) (va_Nw.use rfl (hY.2.1 (.fieldLinkNest RX6 66 RX2 "weight" "I" RX6) (List.mem_of_getElem? (i := 12) rfl))) (fun _ h9 => h9) rfl dX6_exactWeight_50 ?_
            exact rd_iret hx hb hr hlk (by first | with_reducible rfl | (simp only [rrStr, strGrp, sld_eq, h14_1, q43_2, q47_14, q47_17, q47_20, ↓reduceIte]; done)) dX6_exactWeight_53
  · refine lv_aload_n hx hb dX6_exactWeight_17 rfl (lv_at hl 0 rfl) ?_
    refine va_get (D := G.1) (ci := 6) (v := .ref (ad (o+1))) (C := RX6) (T := TX6) (N := 5) hx hb hts hiX6 hown hY.1 hP 0 rfl rfl 0 (by decide) kf10 (fun _ h9 => h9) rfl dX6_exactWeight_18 ?_
    refine lv_iload_n hx hb dX6_exactWeight_21 rfl (lv_at hl 2 rfl) ?_
    by_cases q22_25 : gr = 0
    · have hQ26 := va_P.subm (u := wStr G ad (o+1) s0) (fun q h => by simp only [wRR, List.mem_cons, List.mem_append, h, true_or, or_true]) hP
      refine rdV (w0 := (wStr G ad (o+1) s0)) (As := [.int gr]) (rest := []) CF (k_X5_groupOf l G ad (o+1) s0 gr) (cwV 1 hts gX6_exactWeight_X5_groupOf rfl rfl rfl (by decide +kernel) ⟨Nat.le_of_ble_eq_true rfl, Nat.le_of_ble_eq_true rfl⟩) hQ26 hY rfl rfl rfl hl.1 rfl (lv_room (Nat.le_of_ble_eq_true rfl)) dX6_exactWeight_22 ⟨Nat.zero_le _, Nat.zero_le _⟩ ?_
      rw [show grpRef ad (o+1) gr = ad (o+1+4) from (by simp only [grpRef, eq_true q22_25, ↓reduceIte])]
      have hQ27 := va_P.subm (u := wGrp G ad (o+1+4) s0.2.2.2.2.1) (fun q h => by simp only [wStr, wRR, List.mem_cons, List.mem_append, h, true_or, or_true]) hP
      refine va_getN (D := G.1) (ci := 2) (v := .int s0.2.2.2.2.1.1) (C := RX2) (T := TX2) (N := 2) hx hb hts hiX2 hown hY.1 hQ27 0 rfl rfl 1 (by decide) (va_Nw.use rfl (hY.2.1 (.fieldLinkNest RX6 66 RX2 "weight" "I" RX6) (List.mem_of_getElem? (i := 12) rfl))) (fun _ h9 => h9) rfl dX6_exactWeight_25 ?_
      refine lv_aload_n hx hb dX6_exactWeight_28 rfl (lv_at hl 0 rfl) ?_
      refine va_get (D := G.1) (ci := 6) (v := .ref (ad (o+32))) (C := RX6) (T := TX6) (N := 5) hx hb hts hiX6 hown hY.1 hP 0 rfl rfl 1 (by decide) kf16 (fun _ h9 => h9) rfl dX6_exactWeight_29 ?_
      refine lv_iload_n hx hb dX6_exactWeight_32 rfl (lv_at hl 2 rfl) ?_
      have hQ28 := va_P.subm (u := wStr G ad (o+32) s1) (fun q h => by simp only [wRR, List.mem_cons, List.mem_append, h, true_or, or_true]) hP
      refine rdV (w0 := (wStr G ad (o+32) s1)) (As := [.int gr]) (rest := [.int s0.2.2.2.2.1.1]) CF (k_X5_groupOf l G ad (o+32) s1 gr) (cwV 1 hts gX6_exactWeight_X5_groupOf rfl rfl rfl (by decide +kernel) ⟨Nat.le_of_ble_eq_true rfl, Nat.le_of_ble_eq_true rfl⟩) hQ28 hY rfl rfl rfl hl.1 rfl (lv_room (Nat.le_of_ble_eq_true rfl)) dX6_exactWeight_33 ⟨Nat.zero_le _, Nat.zero_le _⟩ ?_
      rw [show grpRef ad (o+32) gr = ad (o+32+4) from (by simp only [grpRef, eq_true q22_25, ↓reduceIte])]
      have hQ29 := va_P.subm (u := wGrp G ad (o+32+4) s1.2.2.2.2.1) (fun q h => by simp only [wStr, wRR, List.mem_cons, List.mem_append, h, true_or, or_true]) hP
      refine va_getN (D := G.1) (ci := 2) (v := .int s1.2.2.2.2.1.1) (C := RX2) (T := TX2) (N := 2) hx hb hts hiX2 hown hY.1 hQ29 0 rfl rfl 1 (by decide) (va_Nw.use rfl (hY.2.1 (.fieldLinkNest RX6 66 RX2 "weight" "I" RX6) (List.mem_of_getElem? (i := 12) rfl))) (fun _ h9 => h9) rfl dX6_exactWeight_36 ?_
      refine lv_iadd hx hb dX6_exactWeight_39 ?_
      exact rd_iret hx hb hr hlk (by first | with_reducible rfl | (simp only [rrStr, strGrp, sld_eq, eq_true h14_1, eq_true q22_25, ↓reduceIte]; done)) dX6_exactWeight_40
    · by_cases q22_30 : gr = 1
      · have hQ31 := va_P.subm (u := wStr G ad (o+1) s0) (fun q h => by simp only [wRR, List.mem_cons, List.mem_append, h, true_or, or_true]) hP
        refine rdV (w0 := (wStr G ad (o+1) s0)) (As := [.int gr]) (rest := []) CF (k_X5_groupOf l G ad (o+1) s0 gr) (cwV 1 hts gX6_exactWeight_X5_groupOf rfl rfl rfl (by decide +kernel) ⟨Nat.le_of_ble_eq_true rfl, Nat.le_of_ble_eq_true rfl⟩) hQ31 hY rfl rfl rfl hl.1 rfl (lv_room (Nat.le_of_ble_eq_true rfl)) dX6_exactWeight_22 ⟨Nat.zero_le _, Nat.zero_le _⟩ ?_
        rw [show grpRef ad (o+1) gr = ad (o+1+8) from (by simp only [grpRef, q22_25, eq_true q22_30, ↓reduceIte])]
        have hQ32 := va_P.subm (u := wGrp G ad (o+1+8) s0.2.2.2.2.2.1) (fun q h => by simp only [wStr, wRR, List.mem_cons, List.mem_append, h, true_or, or_true]) hP
        refine va_getN (D := G.1) (ci := 2) (v := .int s0.2.2.2.2.2.1.1) (C := RX2) (T := TX2) (N := 2) hx hb hts hiX2 hown hY.1 hQ32 0 rfl rfl 1 (by decide) (va_Nw.use rfl (hY.2.1 (.fieldLinkNest RX6 66 RX2 "weight" "I" RX6) (List.mem_of_getElem? (i := 12) rfl))) (fun _ h9 => h9) rfl dX6_exactWeight_25 ?_
        refine lv_aload_n hx hb dX6_exactWeight_28 rfl (lv_at hl 0 rfl) ?_
        refine va_get (D := G.1) (ci := 6) (v := .ref (ad (o+32))) (C := RX6) (T := TX6) (N := 5) hx hb hts hiX6 hown hY.1 hP 0 rfl rfl 1 (by decide) kf16 (fun _ h9 => h9) rfl dX6_exactWeight_29 ?_
        refine lv_iload_n hx hb dX6_exactWeight_32 rfl (lv_at hl 2 rfl) ?_
        have hQ33 := va_P.subm (u := wStr G ad (o+32) s1) (fun q h => by simp only [wRR, List.mem_cons, List.mem_append, h, true_or, or_true]) hP
        refine rdV (w0 := (wStr G ad (o+32) s1)) (As := [.int gr]) (rest := [.int s0.2.2.2.2.2.1.1]) CF (k_X5_groupOf l G ad (o+32) s1 gr) (cwV 1 hts gX6_exactWeight_X5_groupOf rfl rfl rfl (by decide +kernel) ⟨Nat.le_of_ble_eq_true rfl, Nat.le_of_ble_eq_true rfl⟩) hQ33 hY rfl rfl rfl hl.1 rfl (lv_room (Nat.le_of_ble_eq_true rfl)) dX6_exactWeight_33 ⟨Nat.zero_le _, Nat.zero_le _⟩ ?_
        rw [show grpRef ad (o+32) gr = ad (o+32+8) from (by simp only [grpRef, q22_25, eq_true q22_30, ↓reduceIte])]
        have hQ34 := va_P.subm (u := wGrp G ad (o+32+8) s1.2.2.2.2.2.1) (fun q h => by simp only [wStr, wRR, List.mem_cons, List.mem_append, h, true_or, or_true]) hP
        refine va_getN (D := G.1) (ci := 2) (v := .int s1.2.2.2.2.2.1.1) (C := RX2) (T := TX2) (N := 2) hx hb hts hiX2 hown hY.1 hQ34 0 rfl rfl 1 (by decide) (va_Nw.use rfl (hY.2.1 (.fieldLinkNest RX6 66 RX2 "weight" "I" RX6) (List.mem_of_getElem? (i := 12) rfl))) (fun _ h9 => h9) rfl dX6_exactWeight_36 ?_
        refine lv_iadd hx hb dX6_exactWeight_39 ?_
        exact rd_iret hx hb hr hlk (by first | with_reducible rfl | (simp only [rrStr, strGrp, sld_eq, eq_true h14_1, q22_25, eq_true q22_30, ↓reduceIte]; done)) dX6_exactWeight_40
      · by_cases q22_35 : gr = 2
        · have hQ36 := va_P.subm (u := wStr G ad (o+1) s0) (fun q h => by simp only [wRR, List.mem_cons, List.mem_append, h, true_or, or_true]) hP
          refine rdV (w0 := (wStr G ad (o+1) s0)) (As := [.int gr]) (rest := []) CF (k_X5_groupOf l G ad (o+1) s0 gr) (cwV 1 hts gX6_exactWeight_X5_groupOf rfl rfl rfl (by decide +kernel) ⟨Nat.le_of_ble_eq_true rfl, Nat.le_of_ble_eq_true rfl⟩) hQ36 hY rfl rfl rfl hl.1 rfl (lv_room (Nat.le_of_ble_eq_true rfl)) dX6_exactWeight_22 ⟨Nat.zero_le _, Nat.zero_le _⟩ ?_
          rw [show grpRef ad (o+1) gr = ad (o+1+12) from (by simp only [grpRef, q22_25, q22_30, eq_true q22_35, ↓reduceIte])]
          have hQ37 := va_P.subm (u := wGrp G ad (o+1+12) s0.2.2.2.2.2.2.1) (fun q h => by simp only [wStr, wRR, List.mem_cons, List.mem_append, h, true_or, or_true]) hP
          refine va_getN (D := G.1) (ci := 2) (v := .int s0.2.2.2.2.2.2.1.1) (C := RX2) (T := TX2) (N := 2) hx hb hts hiX2 hown hY.1 hQ37 0 rfl rfl 1 (by decide) (va_Nw.use rfl (hY.2.1 (.fieldLinkNest RX6 66 RX2 "weight" "I" RX6) (List.mem_of_getElem? (i := 12) rfl))) (fun _ h9 => h9) rfl dX6_exactWeight_25 ?_
          refine lv_aload_n hx hb dX6_exactWeight_28 rfl (lv_at hl 0 rfl) ?_
          refine va_get (D := G.1) (ci := 6) (v := .ref (ad (o+32))) (C := RX6) (T := TX6) (N := 5) hx hb hts hiX6 hown hY.1 hP 0 rfl rfl 1 (by decide) kf16 (fun _ h9 => h9) rfl dX6_exactWeight_29 ?_
          refine lv_iload_n hx hb dX6_exactWeight_32 rfl (lv_at hl 2 rfl) ?_
          have hQ38 := va_P.subm (u := wStr G ad (o+32) s1) (fun q h => by simp only [wRR, List.mem_cons, List.mem_append, h, true_or, or_true]) hP
          refine rdV (w0 := (wStr G ad (o+32) s1)) (As := [.int gr]) (rest := [.int s0.2.2.2.2.2.2.1.1]) CF (k_X5_groupOf l G ad (o+32) s1 gr) (cwV 1 hts gX6_exactWeight_X5_groupOf rfl rfl rfl (by decide +kernel) ⟨Nat.le_of_ble_eq_true rfl, Nat.le_of_ble_eq_true rfl⟩) hQ38 hY rfl rfl rfl hl.1 rfl (lv_room (Nat.le_of_ble_eq_true rfl)) dX6_exactWeight_33 ⟨Nat.zero_le _, Nat.zero_le _⟩ ?_
          rw [show grpRef ad (o+32) gr = ad (o+32+12) from (by simp only [grpRef, q22_25, q22_30, eq_true q22_35, ↓reduceIte])]
          have hQ39 := va_P.subm (u := wGrp G ad (o+32+12) s1.2.2.2.2.2.2.1) (fun q h => by simp only [wStr, wRR, List.mem_cons, List.mem_append, h, true_or, or_true]) hP
          refine va_getN (D := G.1) (ci := 2) (v := .int s1.2.2.2.2.2.2.1.1) (C := RX2) (T := TX2) (N := 2) hx hb hts hiX2 hown hY.1 hQ39 0 rfl rfl 1 (by decide) (va_Nw.use rfl (hY.2.1 (.fieldLinkNest RX6 66 RX2 "weight" "I" RX6) (List.mem_of_getElem? (i := 12) rfl))) (fun _ h9 => h9) rfl dX6_exactWeight_36 ?_
          refine lv_iadd hx hb dX6_exactWeight_39 ?_
          exact rd_iret hx hb hr hlk (by first | with_reducible rfl | (simp only [rrStr, strGrp, sld_eq, eq_true h14_1, q22_25, q22_30, eq_true q22_35, ↓reduceIte]; done)) dX6_exactWeight_40
        · have hQ40 := va_P.subm (u := wStr G ad (o+1) s0) (fun q h => by simp only [wRR, List.mem_cons, List.mem_append, h, true_or, or_true]) hP
          refine rdV (w0 := (wStr G ad (o+1) s0)) (As := [.int gr]) (rest := []) CF (k_X5_groupOf l G ad (o+1) s0 gr) (cwV 1 hts gX6_exactWeight_X5_groupOf rfl rfl rfl (by decide +kernel) ⟨Nat.le_of_ble_eq_true rfl, Nat.le_of_ble_eq_true rfl⟩) hQ40 hY rfl rfl rfl hl.1 rfl (lv_room (Nat.le_of_ble_eq_true rfl)) dX6_exactWeight_22 ⟨Nat.zero_le _, Nat.zero_le _⟩ ?_
          rw [show grpRef ad (o+1) gr = ad (o+1+16) from (by simp only [grpRef, q22_25, q22_30, q22_35, ↓reduceIte])]
          have hQ41 := va_P.subm (u := wGrp G ad (o+1+16) s0.2.2.2.2.2.2.2.1) (fun q h => by simp only [wStr, wRR, List.mem_cons, List.mem_append, h, true_or, or_true]) hP
          refine va_getN (D := G.1) (ci := 2) (v := .int s0.2.2.2.2.2.2.2.1.1) (C := RX2) (T := TX2) (N := 2) hx hb hts hiX2 hown hY.1 hQ41 0 rfl rfl 1 (by decide) (va_Nw.use rfl (hY.2.1 (.fieldLinkNest RX6 66 RX2 "weight" "I" RX6) (List.mem_of_getElem? (i := 12) rfl))) (fun _ h9 => h9) rfl dX6_exactWeight_25 ?_
          refine lv_aload_n hx hb dX6_exactWeight_28 rfl (lv_at hl 0 rfl) ?_
          refine va_get (D := G.1) (ci := 6) (v := .ref (ad (o+32))) (C := RX6) (T := TX6) (N := 5) hx hb hts hiX6 hown hY.1 hP 0 rfl rfl 1 (by decide) kf16 (fun _ h9 => h9) rfl dX6_exactWeight_29 ?_
          refine lv_iload_n hx hb dX6_exactWeight_32 rfl (lv_at hl 2 rfl) ?_
          have hQ42 := va_P.subm (u := wStr G ad (o+32) s1) (fun q h => by simp only [wRR, List.mem_cons, List.mem_append, h, true_or, or_true]) hP
          refine rdV (w0 := (wStr G ad (o+32) s1)) (As := [.int gr]) (rest := [.int s0.2.2.2.2.2.2.2.1.1]) CF (k_X5_groupOf l G ad (o+32) s1 gr) (cwV 1 hts gX6_exactWeight_X5_groupOf rfl rfl rfl (by decide +kernel) ⟨Nat.le_of_ble_eq_true rfl, Nat.le_of_ble_eq_true rfl⟩) hQ42 hY rfl rfl rfl hl.1 rfl (lv_room (Nat.le_of_ble_eq_true rfl)) dX6_exactWeight_33 ⟨Nat.zero_le _, Nat.zero_le _⟩ ?_
          rw [show grpRef ad (o+32) gr = ad (o+32+16) from (by simp only [grpRef, q22_25, q22_30, q22_35, ↓reduceIte])]
          have hQ43 := va_P.subm (u := wGrp G ad (o+32+16) s1.2.2.2.2.2.2.2.1) (fun q h => by simp only [wStr, wRR, List.mem_cons, List.mem_append, h, true_or, or_true]) hP
          refine va_getN (D := G.1) (ci := 2) (v := .int s1.2.2.2.2.2.2.2.1.1) (C := RX2) (T := TX2) (N := 2) hx hb hts hiX2 hown hY.1 hQ43 0 rfl rfl 1 (by decide) (va_Nw.use rfl (hY.2.1 (.fieldLinkNest RX6 66 RX2 "weight" "I" RX6) (List.mem_of_getElem? (i := 12) rfl))) (fun _ h9 => h9) rfl dX6_exactWeight_36 ?_
          refine lv_iadd hx hb dX6_exactWeight_39 ?_
          exact rd_iret hx hb hr hlk (by first | with_reducible rfl | (simp only [rrStr, strGrp, sld_eq, eq_true h14_1, q22_25, q22_30, q22_35, ↓reduceIte]; done)) dX6_exactWeight_40

set_option maxHeartbeats 4000000 in
set_option maxRecDepth 100000 in
theorem kn_X6_exactWeight (l : Launch) (hl0 : l.stackTraces = false) (G : GT) (ad : Nat → Nat) (o : Nat) (sg : RRT) (st gr : Int32) (hk : ¬ (okA st 0 2 ∧ okA gr 0 3)) : No l yX6_exactWeight wsX6_exactWeight { frames := 7, cells := 1, slots := 6, locals := 122 } G (wRR G ad o sg) (wRR G ad o sg) [.ref (ad o), .int st, .int gr] "java/lang/IllegalArgumentException" := by
  intro sz
  obtain ⟨k, s0, s1, mp, md⟩ := sg
  refine vx_ofW (cc := cX6_exactWeight) (maxL := 3) (ret := (some .int)) (by decide) rfl ?_
  intro p e s m args below meth c s₁ B hml ht hv
  obtain ⟨rfl, hsz, hP, hY, hD0, hZ0⟩ := hv
  subst hsz
  have hD := hD0.self (sz := s.heap.size)
  generalize hAe : va_A (wRR G ad o (k, s0, s1, mp, md)) s.heap.size = A at hD hZ0 ⊢
  have hZ : Zs A s s.heap := hZ0
  have hA : ∀ q : Nat, s.heap.size ≤ q → A q := fun q h => by rw [← hAe]; exact Or.inr h
  have hS : va_S A s.heap s.heap [] := va_S.rf
  have hx := B.exec
  have hb := B.bytes
  have hr := B.returns
  have hts := atoms_spec (ws := wsX6_exactWeight) B.pre
  have hown : s.vm.findClass RX6 = some m.cls := findClass_of_methodNamed B.named
  have hlk := B.notSynchronized
  have CF : CallFix p m c cX6_exactWeight 3 s _ wsX6_exactWeight RX6 := ⟨hx, hb, hml, hown, hts⟩
  have hl := lv_entry ([.ref (ad o), .int st, .int gr]) (n := 3) (Nat.le_of_ble_eq_true rfl)
  rw [lg_entry_eq]
  generalize (lg_sl ([.ref (ad o), .int st, .int gr]) ++ List.replicate (3 - (lg_sl ([.ref (ad o), .int st, .int gr])).length) Slot.unset).toArray = ls at hl ⊢
  have hl : lv_has ls 3 [(0, .ref (ad o)), (1, .int st), (2, .int gr)] := hl
  refine lv_iload_n hx hb dX6_exactWeight_0 rfl (lv_at hl 1 rfl) ?_
  refine lv_iconst (v := 0) hx hb dX6_exactWeight_1 (by decide) ?_
  refine lv_iconst (v := 2) hx hb dX6_exactWeight_2 (by decide) ?_
  by_cases q3_1 : okA st 0 2
  · refine rvS (w0 := []) (As := [.int st, .int 0, .int 2]) (rest := []) CF (k_X6_checkArgument l G st 0 2 q3_1) (va_cwS 3 hts gX6_exactWeight_X6_checkArgument rfl rfl rfl (by decide +kernel) ⟨Nat.le_of_ble_eq_true rfl, Nat.le_of_ble_eq_true rfl⟩) va_P_nil hY rfl hl.1 rfl (lv_room (Nat.le_of_ble_eq_true rfl)) dX6_exactWeight_3 ⟨Nat.zero_le _, Nat.zero_le _⟩ ?_
    refine lv_iload_n hx hb dX6_exactWeight_6 rfl (lv_at hl 2 rfl) ?_
    refine lv_iconst (v := 0) hx hb dX6_exactWeight_7 (by decide) ?_
    refine lv_iconst (v := 3) hx hb dX6_exactWeight_8 (by decide) ?_
    by_cases q9_2 : okA gr 0 3
    · refine rvS (w0 := []) (As := [.int gr, .int 0, .int 3]) (rest := []) CF (k_X6_checkArgument l G gr 0 3 q9_2) (va_cwS 3 hts gX6_exactWeight_X6_checkArgument rfl rfl rfl (by decide +kernel) ⟨Nat.le_of_ble_eq_true rfl, Nat.le_of_ble_eq_true rfl⟩) va_P_nil hY rfl hl.1 rfl (lv_room (Nat.le_of_ble_eq_true rfl)) dX6_exactWeight_9 ⟨Nat.zero_le _, Nat.zero_le _⟩ ?_
      exact absurd ⟨q3_1, q9_2⟩ hk
    · refine noS0 (As := [.int gr, .int 0, .int 3]) (rest := []) CF (kn_X6_checkArgument l hl0 G gr 0 3 q9_2) (va_cwS 3 hts gX6_exactWeight_X6_checkArgument rfl rfl rfl (by decide +kernel) ⟨Nat.le_of_ble_eq_true rfl, Nat.le_of_ble_eq_true rfl⟩) hP hD hS hA hY hZ rfl hl.1 rfl (lv_room (Nat.le_of_ble_eq_true rfl)) dX6_exactWeight_9 ⟨Nat.le_of_ble_eq_true rfl, Nat.le_of_ble_eq_true rfl⟩ (fun ce q9 H locs hP hD hS hce hcv hcl hgr => ?_)
      exact no_out ht hlk hce hcv hcl hgr hS hP (by first | with_reducible rfl | (simp only [rrStr, strGrp, sld_eq, q3_1, q9_2, ↓reduceIte]; done))
  · refine noS0 (As := [.int st, .int 0, .int 2]) (rest := []) CF (kn_X6_checkArgument l hl0 G st 0 2 q3_1) (va_cwS 3 hts gX6_exactWeight_X6_checkArgument rfl rfl rfl (by decide +kernel) ⟨Nat.le_of_ble_eq_true rfl, Nat.le_of_ble_eq_true rfl⟩) hP hD hS hA hY hZ rfl hl.1 rfl (lv_room (Nat.le_of_ble_eq_true rfl)) dX6_exactWeight_3 ⟨Nat.le_of_ble_eq_true rfl, Nat.le_of_ble_eq_true rfl⟩ (fun ce q9 H locs hP hD hS hce hcv hcl hgr => ?_)
    exact no_out ht hlk hce hcv hcl hgr hS hP (by first | with_reducible rfl | (simp only [rrStr, strGrp, sld_eq, q3_1, ↓reduceIte]; done))

set_option maxHeartbeats 4000000 in
set_option maxRecDepth 100000 in
theorem k_X6_reservoirSize (l : Launch) (G : GT) (ad : Nat → Nat) (o : Nat) (sg : RRT) (st : Int32) (h0 : okA st 0 1) : Rd l yX6_reservoirSize wsX6_reservoirSize { frames := 7, cells := 0, slots := 0, locals := 122 } G (wRR G ad o sg) [.ref (ad o), .int st] (.int (resFilled (rrStr sg st).2.2.2.1)) := by
  obtain ⟨k, s0, s1, mp, md⟩ := sg
  refine Met.ofW (cc := cX6_reservoirSize) (maxL := 2) (ret := (some .int)) (by decide) rfl ?_
  intro p e s m args below meth c s₁ B hml hv
  obtain ⟨rfl, hP, hY⟩ := hv
  have hx := B.exec
  have hb := B.bytes
  have hr := B.returns
  have hts := atoms_spec (ws := wsX6_reservoirSize) B.pre
  have hown : s.vm.findClass RX6 = some m.cls := findClass_of_methodNamed B.named
  have hlk := B.notSynchronized
  have CF : CallFix p m c cX6_reservoirSize 2 s _ wsX6_reservoirSize RX6 := ⟨hx, hb, hml, hown, hts⟩
  have hiX5 : ∀ w ∈ wsX50, w ∈ wsX6_reservoirSize := fun w h => (List.mem_cons_of_mem _ (List.mem_append_left _ (List.mem_append_left _ (List.mem_append_left _ (List.mem_append_right _ h)))))
  have hl := lv_entry ([.ref (ad o), .int st]) (n := 2) (Nat.le_of_ble_eq_true rfl)
  rw [lg_entry_eq]
  generalize (lg_sl ([.ref (ad o), .int st]) ++ List.replicate (2 - (lg_sl ([.ref (ad o), .int st])).length) Slot.unset).toArray = ls at hl ⊢
  have hl : lv_has ls 2 [(0, .ref (ad o)), (1, .int st)] := hl
  refine lv_iload_n hx hb dX6_reservoirSize_0 rfl (lv_at hl 1 rfl) ?_
  refine lv_iconst (v := 0) hx hb dX6_reservoirSize_1 (by decide) ?_
  refine lv_iconst (v := 1) hx hb dX6_reservoirSize_2 (by decide) ?_
  refine rvS (w0 := []) (As := [.int st, .int 0, .int 1]) (rest := []) CF (k_X6_checkArgument l G st 0 1 h0) (va_cwS 3 hts gX6_reservoirSize_X6_checkArgument rfl rfl rfl (by decide +kernel) ⟨Nat.le_of_ble_eq_true rfl, Nat.le_of_ble_eq_true rfl⟩) va_P_nil hY rfl hl.1 rfl (lv_room (Nat.le_of_ble_eq_true rfl)) dX6_reservoirSize_3 ⟨Nat.zero_le _, Nat.zero_le _⟩ ?_
  refine lv_aload_n hx hb dX6_reservoirSize_6 rfl (lv_at hl 0 rfl) ?_
  refine lv_iload_n hx hb dX6_reservoirSize_7 rfl (lv_at hl 1 rfl) ?_
  by_cases q8_1 : st = 0
  · refine rdV (w0 := (wRR G ad o (k, s0, s1, mp, md))) (As := [.int st]) (rest := []) CF (k0_X6_streamOf l G ad o (k, s0, s1, mp, md) st q8_1) (cwV 1 hts gX6_reservoirSize_X6_streamOf rfl rfl rfl (by decide +kernel) ⟨Nat.le_of_ble_eq_true rfl, Nat.le_of_ble_eq_true rfl⟩) hP hY rfl rfl rfl hl.1 rfl (lv_room (Nat.le_of_ble_eq_true rfl)) dX6_reservoirSize_8 ⟨Nat.zero_le _, Nat.zero_le _⟩ ?_
    have hQ2 := va_P.subm (u := wStr G ad (o+1) s0) (fun q h => by simp only [wRR, List.mem_cons, List.mem_append, h, true_or, or_true]) hP
    refine va_getN (D := G.1) (ci := 5) (v := .ref (ad (o+1+1))) (C := RX5) (T := TX5) (N := 11) hx hb hts hiX5 hown hY.1 hQ2 0 rfl rfl 0 (by decide) (va_Nw.use rfl (hY.2.1 (.fieldLinkNest RX6 71 RX5 "reservoir" "LReservoirReed$Reservoir;" RX6) (List.mem_of_getElem? (i := 13) rfl))) (fun _ h9 => h9) rfl dX6_reservoirSize_11 ?_
    have hQ3 := va_P.subm (u := wRes G ad (o+1+1) s0.2.2.2.1) (fun q h => by simp only [wStr, wRR, List.mem_cons, List.mem_append, h, true_or, or_true]) hP
    refine rdV (w0 := (wRes G ad (o+1+1) s0.2.2.2.1)) (As := []) (rest := []) CF (k_X4_filled l G ad (o+1+1) s0.2.2.2.1) (cwV 0 hts gX6_reservoirSize_X4_filled rfl rfl rfl (by decide +kernel) ⟨Nat.le_of_ble_eq_true rfl, Nat.le_of_ble_eq_true rfl⟩) hQ3 hY rfl rfl rfl hl.1 rfl (lv_room (Nat.le_of_ble_eq_true rfl)) dX6_reservoirSize_14 ⟨Nat.zero_le _, Nat.zero_le _⟩ ?_
    exact rd_iret hx hb hr hlk (by first | with_reducible rfl | (simp only [rrStr, sld_eq, eq_true q8_1, ↓reduceIte]; done)) dX6_reservoirSize_17
  · refine rdV (w0 := (wRR G ad o (k, s0, s1, mp, md))) (As := [.int st]) (rest := []) CF (k1_X6_streamOf l G ad o (k, s0, s1, mp, md) st q8_1) (cwV 1 hts gX6_reservoirSize_X6_streamOf rfl rfl rfl (by decide +kernel) ⟨Nat.le_of_ble_eq_true rfl, Nat.le_of_ble_eq_true rfl⟩) hP hY rfl rfl rfl hl.1 rfl (lv_room (Nat.le_of_ble_eq_true rfl)) dX6_reservoirSize_8 ⟨Nat.zero_le _, Nat.zero_le _⟩ ?_
    have hQ4 := va_P.subm (u := wStr G ad (o+32) s1) (fun q h => by simp only [wRR, List.mem_cons, List.mem_append, h, true_or, or_true]) hP
    refine va_getN (D := G.1) (ci := 5) (v := .ref (ad (o+32+1))) (C := RX5) (T := TX5) (N := 11) hx hb hts hiX5 hown hY.1 hQ4 0 rfl rfl 0 (by decide) (va_Nw.use rfl (hY.2.1 (.fieldLinkNest RX6 71 RX5 "reservoir" "LReservoirReed$Reservoir;" RX6) (List.mem_of_getElem? (i := 13) rfl))) (fun _ h9 => h9) rfl dX6_reservoirSize_11 ?_
    have hQ5 := va_P.subm (u := wRes G ad (o+32+1) s1.2.2.2.1) (fun q h => by simp only [wStr, wRR, List.mem_cons, List.mem_append, h, true_or, or_true]) hP
    refine rdV (w0 := (wRes G ad (o+32+1) s1.2.2.2.1)) (As := []) (rest := []) CF (k_X4_filled l G ad (o+32+1) s1.2.2.2.1) (cwV 0 hts gX6_reservoirSize_X4_filled rfl rfl rfl (by decide +kernel) ⟨Nat.le_of_ble_eq_true rfl, Nat.le_of_ble_eq_true rfl⟩) hQ5 hY rfl rfl rfl hl.1 rfl (lv_room (Nat.le_of_ble_eq_true rfl)) dX6_reservoirSize_14 ⟨Nat.zero_le _, Nat.zero_le _⟩ ?_
    exact rd_iret hx hb hr hlk (by first | with_reducible rfl | (simp only [rrStr, sld_eq, q8_1, ↓reduceIte]; done)) dX6_reservoirSize_17

set_option maxHeartbeats 4000000 in
set_option maxRecDepth 100000 in
theorem kn_X6_reservoirSize (l : Launch) (hl0 : l.stackTraces = false) (G : GT) (ad : Nat → Nat) (o : Nat) (sg : RRT) (st : Int32) (hk : ¬ (okA st 0 1)) : No l yX6_reservoirSize wsX6_reservoirSize { frames := 7, cells := 1, slots := 6, locals := 122 } G (wRR G ad o sg) (wRR G ad o sg) [.ref (ad o), .int st] "java/lang/IllegalArgumentException" := by
  intro sz
  obtain ⟨k, s0, s1, mp, md⟩ := sg
  refine vx_ofW (cc := cX6_reservoirSize) (maxL := 2) (ret := (some .int)) (by decide) rfl ?_
  intro p e s m args below meth c s₁ B hml ht hv
  obtain ⟨rfl, hsz, hP, hY, hD0, hZ0⟩ := hv
  subst hsz
  have hD := hD0.self (sz := s.heap.size)
  generalize hAe : va_A (wRR G ad o (k, s0, s1, mp, md)) s.heap.size = A at hD hZ0 ⊢
  have hZ : Zs A s s.heap := hZ0
  have hA : ∀ q : Nat, s.heap.size ≤ q → A q := fun q h => by rw [← hAe]; exact Or.inr h
  have hS : va_S A s.heap s.heap [] := va_S.rf
  have hx := B.exec
  have hb := B.bytes
  have hr := B.returns
  have hts := atoms_spec (ws := wsX6_reservoirSize) B.pre
  have hown : s.vm.findClass RX6 = some m.cls := findClass_of_methodNamed B.named
  have hlk := B.notSynchronized
  have CF : CallFix p m c cX6_reservoirSize 2 s _ wsX6_reservoirSize RX6 := ⟨hx, hb, hml, hown, hts⟩
  have hl := lv_entry ([.ref (ad o), .int st]) (n := 2) (Nat.le_of_ble_eq_true rfl)
  rw [lg_entry_eq]
  generalize (lg_sl ([.ref (ad o), .int st]) ++ List.replicate (2 - (lg_sl ([.ref (ad o), .int st])).length) Slot.unset).toArray = ls at hl ⊢
  have hl : lv_has ls 2 [(0, .ref (ad o)), (1, .int st)] := hl
  refine lv_iload_n hx hb dX6_reservoirSize_0 rfl (lv_at hl 1 rfl) ?_
  refine lv_iconst (v := 0) hx hb dX6_reservoirSize_1 (by decide) ?_
  refine lv_iconst (v := 1) hx hb dX6_reservoirSize_2 (by decide) ?_
  by_cases q3_1 : okA st 0 1
  · refine rvS (w0 := []) (As := [.int st, .int 0, .int 1]) (rest := []) CF (k_X6_checkArgument l G st 0 1 q3_1) (va_cwS 3 hts gX6_reservoirSize_X6_checkArgument rfl rfl rfl (by decide +kernel) ⟨Nat.le_of_ble_eq_true rfl, Nat.le_of_ble_eq_true rfl⟩) va_P_nil hY rfl hl.1 rfl (lv_room (Nat.le_of_ble_eq_true rfl)) dX6_reservoirSize_3 ⟨Nat.zero_le _, Nat.zero_le _⟩ ?_
    exact absurd q3_1 hk
  · refine noS0 (As := [.int st, .int 0, .int 1]) (rest := []) CF (kn_X6_checkArgument l hl0 G st 0 1 q3_1) (va_cwS 3 hts gX6_reservoirSize_X6_checkArgument rfl rfl rfl (by decide +kernel) ⟨Nat.le_of_ble_eq_true rfl, Nat.le_of_ble_eq_true rfl⟩) hP hD hS hA hY hZ rfl hl.1 rfl (lv_room (Nat.le_of_ble_eq_true rfl)) dX6_reservoirSize_3 ⟨Nat.le_of_ble_eq_true rfl, Nat.le_of_ble_eq_true rfl⟩ (fun ce q9 H locs hP hD hS hce hcv hcl hgr => ?_)
    exact no_out ht hlk hce hcv hcl hgr hS hP (by first | with_reducible rfl | (simp only [rrStr, sld_eq, q3_1, ↓reduceIte]; done))

set_option maxHeartbeats 4000000 in
set_option maxRecDepth 100000 in
theorem k_X6_reservoirItem (l : Launch) (G : GT) (ad : Nat → Nat) (o : Nat) (sg : RRT) (st sl : Int32) (h0 : okA st 0 1) (hs : okP sl (resFilled (rrStr sg st).2.2.2.1)) : Rd l yX6_reservoirItem wsX6_reservoirItem { frames := 7, cells := 0, slots := 0, locals := 122 } G (wRR G ad o sg) [.ref (ad o), .int st, .int sl] (.int (at_ 16 (rrStr sg st).2.2.2.1.2.2.1 sl)) := by
  obtain ⟨k, s0, s1, mp, md⟩ := sg
  refine Met.ofW (cc := cX6_reservoirItem) (maxL := 4) (ret := (some .int)) (by decide) rfl ?_
  intro p e s m args below meth c s₁ B hml hv
  obtain ⟨rfl, hP, hY⟩ := hv
  have hx := B.exec
  have hb := B.bytes
  have hr := B.returns
  have hts := atoms_spec (ws := wsX6_reservoirItem) B.pre
  have hown : s.vm.findClass RX6 = some m.cls := findClass_of_methodNamed B.named
  have hlk := B.notSynchronized
  have CF : CallFix p m c cX6_reservoirItem 4 s _ wsX6_reservoirItem RX6 := ⟨hx, hb, hml, hown, hts⟩
  have hiX5 : ∀ w ∈ wsX50, w ∈ wsX6_reservoirItem := fun w h => (List.mem_cons_of_mem _ (List.mem_append_left _ (List.mem_append_left _ (List.mem_append_left _ (List.mem_append_left _ (List.mem_append_right _ h))))))
  have hiX4 : ∀ w ∈ wsX40, w ∈ wsX6_reservoirItem := fun w h => (List.mem_cons_of_mem _ (List.mem_append_left _ (List.mem_append_left _ (List.mem_append_left _ (List.mem_append_right _ h)))))
  have hl := lv_entry ([.ref (ad o), .int st, .int sl]) (n := 4) (Nat.le_of_ble_eq_true rfl)
  rw [lg_entry_eq]
  generalize (lg_sl ([.ref (ad o), .int st, .int sl]) ++ List.replicate (4 - (lg_sl ([.ref (ad o), .int st, .int sl])).length) Slot.unset).toArray = ls at hl ⊢
  have hl : lv_has ls 4 [(0, .ref (ad o)), (1, .int st), (2, .int sl)] := hl
  refine lv_iload_n hx hb dX6_reservoirItem_0 rfl (lv_at hl 1 rfl) ?_
  refine lv_iconst (v := 0) hx hb dX6_reservoirItem_1 (by decide) ?_
  refine lv_iconst (v := 1) hx hb dX6_reservoirItem_2 (by decide) ?_
  refine rvS (w0 := []) (As := [.int st, .int 0, .int 1]) (rest := []) CF (k_X6_checkArgument l G st 0 1 h0) (va_cwS 3 hts gX6_reservoirItem_X6_checkArgument rfl rfl rfl (by decide +kernel) ⟨Nat.le_of_ble_eq_true rfl, Nat.le_of_ble_eq_true rfl⟩) va_P_nil hY rfl hl.1 rfl (lv_room (Nat.le_of_ble_eq_true rfl)) dX6_reservoirItem_3 ⟨Nat.zero_le _, Nat.zero_le _⟩ ?_
  refine lv_aload_n hx hb dX6_reservoirItem_6 rfl (lv_at hl 0 rfl) ?_
  refine lv_iload_n hx hb dX6_reservoirItem_7 rfl (lv_at hl 1 rfl) ?_
  by_cases q8_1 : st = 0
  · refine rdV (w0 := (wRR G ad o (k, s0, s1, mp, md))) (As := [.int st]) (rest := []) CF (k0_X6_streamOf l G ad o (k, s0, s1, mp, md) st q8_1) (cwV 1 hts gX6_reservoirItem_X6_streamOf rfl rfl rfl (by decide +kernel) ⟨Nat.le_of_ble_eq_true rfl, Nat.le_of_ble_eq_true rfl⟩) hP hY rfl rfl rfl hl.1 rfl (lv_room (Nat.le_of_ble_eq_true rfl)) dX6_reservoirItem_8 ⟨Nat.zero_le _, Nat.zero_le _⟩ ?_
    have hQ2 := va_P.subm (u := wStr G ad (o+1) s0) (fun q h => by simp only [wRR, List.mem_cons, List.mem_append, h, true_or, or_true]) hP
    refine va_getN (D := G.1) (ci := 5) (v := .ref (ad (o+1+1))) (C := RX5) (T := TX5) (N := 11) hx hb hts hiX5 hown hY.1 hQ2 0 rfl rfl 0 (by decide) (va_Nw.use rfl (hY.2.1 (.fieldLinkNest RX6 71 RX5 "reservoir" "LReservoirReed$Reservoir;" RX6) (List.mem_of_getElem? (i := 13) rfl))) (fun _ h9 => h9) rfl dX6_reservoirItem_11 ?_
    refine lv_astore_n (lv' := [(3, .ref (ad (o+1+1))), (0, .ref (ad o)), (1, .int st), (2, .int sl)]) hx hb dX6_reservoirItem_14 rfl hl (by decide) rfl (fun ls hl => ?_)
    refine lv_iload_n hx hb dX6_reservoirItem_15 rfl (lv_at hl 3 rfl) ?_
    refine lv_aload_n hx hb dX6_reservoirItem_16 rfl (lv_at hl 0 rfl) ?_
    have hQ3 := va_P.subm (u := wRes G ad (o+1+1) s0.2.2.2.1) (fun q h => by simp only [wStr, wRR, List.mem_cons, List.mem_append, h, true_or, or_true]) hP
    refine rdV (w0 := (wRes G ad (o+1+1) s0.2.2.2.1)) (As := []) (rest := [.int sl]) CF (k_X4_filled l G ad (o+1+1) s0.2.2.2.1) (cwV 0 hts gX6_reservoirItem_X4_filled rfl rfl rfl (by decide +kernel) ⟨Nat.le_of_ble_eq_true rfl, Nat.le_of_ble_eq_true rfl⟩) hQ3 hY rfl rfl rfl hl.1 rfl (lv_room (Nat.le_of_ble_eq_true rfl)) dX6_reservoirItem_17 ⟨Nat.zero_le _, Nat.zero_le _⟩ ?_
    refine rvS (w0 := []) (As := [.int sl, .int (resFilled s0.2.2.2.1)]) (rest := []) CF (k_X6_checkPlace l G sl (resFilled s0.2.2.2.1) (by simpa only [rrStr, eq_true q8_1, ↓reduceIte] using hs)) (va_cwS 2 hts gX6_reservoirItem_X6_checkPlace rfl rfl rfl (by decide +kernel) ⟨Nat.le_of_ble_eq_true rfl, Nat.le_of_ble_eq_true rfl⟩) va_P_nil hY rfl hl.1 rfl (lv_room (Nat.le_of_ble_eq_true rfl)) dX6_reservoirItem_20 ⟨Nat.zero_le _, Nat.zero_le _⟩ ?_
    refine lv_aload_n hx hb dX6_reservoirItem_23 rfl (lv_at hl 0 rfl) ?_
    have hQ4 := va_P.subm (u := wRes G ad (o+1+1) s0.2.2.2.1) (fun q h => by simp only [wStr, wRR, List.mem_cons, List.mem_append, h, true_or, or_true]) hP
    refine va_getN (D := G.1) (ci := 4) (v := .ref (ad (o+1+1+1))) (C := RX4) (T := TX4) (N := 4) hx hb hts hiX4 hown hY.1 hQ4 0 rfl rfl 0 (by decide) (va_Nw.use rfl (hY.2.1 (.fieldLinkNest RX6 84 RX4 "items" "[I" RX6) (List.mem_of_getElem? (i := 14) rfl))) (fun _ h9 => h9) rfl dX6_reservoirItem_24 ?_
    refine lv_iload_n hx hb dX6_reservoirItem_27 rfl (lv_at hl 3 rfl) ?_
    have hQ5 := va_P.subm (u := wRes G ad (o+1+1) s0.2.2.2.1) (fun q h => by simp only [wStr, wRR, List.mem_cons, List.mem_append, h, true_or, or_true]) hP
    refine rdS (w0 := [(ad (o+1+1+1), .inl (G.2.1, 16, .inl s0.2.2.2.1.2.2.1))]) (As := [.ref (ad (o+1+1+1)), .int sl]) (rest := []) CF (k_X6_at l G 16 (ad (o+1+1+1)) s0.2.2.2.1.2.2.1 sl (by decide)) (va_cwS 2 hts gX6_reservoirItem_X6_at rfl rfl rfl (by decide +kernel) ⟨Nat.le_of_ble_eq_true rfl, Nat.le_of_ble_eq_true rfl⟩) (hQ5.sub (ws' := [(ad (o+1+1+1), .inl (G.2.1, 16, .inl s0.2.2.2.1.2.2.1))]) [1] rfl) hY rfl hl.1 rfl (lv_room (Nat.le_of_ble_eq_true rfl)) dX6_reservoirItem_28 ⟨Nat.zero_le _, Nat.zero_le _⟩ ?_
    exact rd_iret hx hb hr hlk (by first | with_reducible rfl | (simp only [rrStr, sld_eq, eq_true q8_1, ↓reduceIte]; done)) dX6_reservoirItem_31
  · refine rdV (w0 := (wRR G ad o (k, s0, s1, mp, md))) (As := [.int st]) (rest := []) CF (k1_X6_streamOf l G ad o (k, s0, s1, mp, md) st q8_1) (cwV 1 hts gX6_reservoirItem_X6_streamOf rfl rfl rfl (by decide +kernel) ⟨Nat.le_of_ble_eq_true rfl, Nat.le_of_ble_eq_true rfl⟩) hP hY rfl rfl rfl hl.1 rfl (lv_room (Nat.le_of_ble_eq_true rfl)) dX6_reservoirItem_8 ⟨Nat.zero_le _, Nat.zero_le _⟩ ?_
    have hQ6 := va_P.subm (u := wStr G ad (o+32) s1) (fun q h => by simp only [wRR, List.mem_cons, List.mem_append, h, true_or, or_true]) hP
    refine va_getN (D := G.1) (ci := 5) (v := .ref (ad (o+32+1))) (C := RX5) (T := TX5) (N := 11) hx hb hts hiX5 hown hY.1 hQ6 0 rfl rfl 0 (by decide) (va_Nw.use rfl (hY.2.1 (.fieldLinkNest RX6 71 RX5 "reservoir" "LReservoirReed$Reservoir;" RX6) (List.mem_of_getElem? (i := 13) rfl))) (fun _ h9 => h9) rfl dX6_reservoirItem_11 ?_
    refine lv_astore_n (lv' := [(3, .ref (ad (o+32+1))), (0, .ref (ad o)), (1, .int st), (2, .int sl)]) hx hb dX6_reservoirItem_14 rfl hl (by decide) rfl (fun ls hl => ?_)
    refine lv_iload_n hx hb dX6_reservoirItem_15 rfl (lv_at hl 3 rfl) ?_
    refine lv_aload_n hx hb dX6_reservoirItem_16 rfl (lv_at hl 0 rfl) ?_
    have hQ7 := va_P.subm (u := wRes G ad (o+32+1) s1.2.2.2.1) (fun q h => by simp only [wStr, wRR, List.mem_cons, List.mem_append, h, true_or, or_true]) hP
    refine rdV (w0 := (wRes G ad (o+32+1) s1.2.2.2.1)) (As := []) (rest := [.int sl]) CF (k_X4_filled l G ad (o+32+1) s1.2.2.2.1) (cwV 0 hts gX6_reservoirItem_X4_filled rfl rfl rfl (by decide +kernel) ⟨Nat.le_of_ble_eq_true rfl, Nat.le_of_ble_eq_true rfl⟩) hQ7 hY rfl rfl rfl hl.1 rfl (lv_room (Nat.le_of_ble_eq_true rfl)) dX6_reservoirItem_17 ⟨Nat.zero_le _, Nat.zero_le _⟩ ?_
    refine rvS (w0 := []) (As := [.int sl, .int (resFilled s1.2.2.2.1)]) (rest := []) CF (k_X6_checkPlace l G sl (resFilled s1.2.2.2.1) (by simpa only [rrStr, q8_1, ↓reduceIte] using hs)) (va_cwS 2 hts gX6_reservoirItem_X6_checkPlace rfl rfl rfl (by decide +kernel) ⟨Nat.le_of_ble_eq_true rfl, Nat.le_of_ble_eq_true rfl⟩) va_P_nil hY rfl hl.1 rfl (lv_room (Nat.le_of_ble_eq_true rfl)) dX6_reservoirItem_20 ⟨Nat.zero_le _, Nat.zero_le _⟩ ?_
    refine lv_aload_n hx hb dX6_reservoirItem_23 rfl (lv_at hl 0 rfl) ?_
    have hQ8 := va_P.subm (u := wRes G ad (o+32+1) s1.2.2.2.1) (fun q h => by simp only [wStr, wRR, List.mem_cons, List.mem_append, h, true_or, or_true]) hP
    refine va_getN (D := G.1) (ci := 4) (v := .ref (ad (o+32+1+1))) (C := RX4) (T := TX4) (N := 4) hx hb hts hiX4 hown hY.1 hQ8 0 rfl rfl 0 (by decide) (va_Nw.use rfl (hY.2.1 (.fieldLinkNest RX6 84 RX4 "items" "[I" RX6) (List.mem_of_getElem? (i := 14) rfl))) (fun _ h9 => h9) rfl dX6_reservoirItem_24 ?_
    refine lv_iload_n hx hb dX6_reservoirItem_27 rfl (lv_at hl 3 rfl) ?_
    have hQ9 := va_P.subm (u := wRes G ad (o+32+1) s1.2.2.2.1) (fun q h => by simp only [wStr, wRR, List.mem_cons, List.mem_append, h, true_or, or_true]) hP
    refine rdS (w0 := [(ad (o+32+1+1), .inl (G.2.1, 16, .inl s1.2.2.2.1.2.2.1))]) (As := [.ref (ad (o+32+1+1)), .int sl]) (rest := []) CF (k_X6_at l G 16 (ad (o+32+1+1)) s1.2.2.2.1.2.2.1 sl (by decide)) (va_cwS 2 hts gX6_reservoirItem_X6_at rfl rfl rfl (by decide +kernel) ⟨Nat.le_of_ble_eq_true rfl, Nat.le_of_ble_eq_true rfl⟩) (hQ9.sub (ws' := [(ad (o+32+1+1), .inl (G.2.1, 16, .inl s1.2.2.2.1.2.2.1))]) [1] rfl) hY rfl hl.1 rfl (lv_room (Nat.le_of_ble_eq_true rfl)) dX6_reservoirItem_28 ⟨Nat.zero_le _, Nat.zero_le _⟩ ?_
    exact rd_iret hx hb hr hlk (by first | with_reducible rfl | (simp only [rrStr, sld_eq, q8_1, ↓reduceIte]; done)) dX6_reservoirItem_31

set_option maxHeartbeats 4000000 in
set_option maxRecDepth 100000 in
theorem kn_X6_reservoirItem (l : Launch) (hl0 : l.stackTraces = false) (G : GT) (ad : Nat → Nat) (o : Nat) (sg : RRT) (st sl : Int32) (hk : ¬ (okA st 0 1)) : No l yX6_reservoirItem wsX6_reservoirItem { frames := 7, cells := 1, slots := 6, locals := 122 } G (wRR G ad o sg) (wRR G ad o sg) [.ref (ad o), .int st, .int sl] "java/lang/IllegalArgumentException" := by
  intro sz
  obtain ⟨k, s0, s1, mp, md⟩ := sg
  refine vx_ofW (cc := cX6_reservoirItem) (maxL := 4) (ret := (some .int)) (by decide) rfl ?_
  intro p e s m args below meth c s₁ B hml ht hv
  obtain ⟨rfl, hsz, hP, hY, hD0, hZ0⟩ := hv
  subst hsz
  have hD := hD0.self (sz := s.heap.size)
  generalize hAe : va_A (wRR G ad o (k, s0, s1, mp, md)) s.heap.size = A at hD hZ0 ⊢
  have hZ : Zs A s s.heap := hZ0
  have hA : ∀ q : Nat, s.heap.size ≤ q → A q := fun q h => by rw [← hAe]; exact Or.inr h
  have hS : va_S A s.heap s.heap [] := va_S.rf
  have hx := B.exec
  have hb := B.bytes
  have hr := B.returns
  have hts := atoms_spec (ws := wsX6_reservoirItem) B.pre
  have hown : s.vm.findClass RX6 = some m.cls := findClass_of_methodNamed B.named
  have hlk := B.notSynchronized
  have CF : CallFix p m c cX6_reservoirItem 4 s _ wsX6_reservoirItem RX6 := ⟨hx, hb, hml, hown, hts⟩
  have hl := lv_entry ([.ref (ad o), .int st, .int sl]) (n := 4) (Nat.le_of_ble_eq_true rfl)
  rw [lg_entry_eq]
  generalize (lg_sl ([.ref (ad o), .int st, .int sl]) ++ List.replicate (4 - (lg_sl ([.ref (ad o), .int st, .int sl])).length) Slot.unset).toArray = ls at hl ⊢
  have hl : lv_has ls 4 [(0, .ref (ad o)), (1, .int st), (2, .int sl)] := hl
  refine lv_iload_n hx hb dX6_reservoirItem_0 rfl (lv_at hl 1 rfl) ?_
  refine lv_iconst (v := 0) hx hb dX6_reservoirItem_1 (by decide) ?_
  refine lv_iconst (v := 1) hx hb dX6_reservoirItem_2 (by decide) ?_
  by_cases q3_1 : okA st 0 1
  · refine rvS (w0 := []) (As := [.int st, .int 0, .int 1]) (rest := []) CF (k_X6_checkArgument l G st 0 1 q3_1) (va_cwS 3 hts gX6_reservoirItem_X6_checkArgument rfl rfl rfl (by decide +kernel) ⟨Nat.le_of_ble_eq_true rfl, Nat.le_of_ble_eq_true rfl⟩) va_P_nil hY rfl hl.1 rfl (lv_room (Nat.le_of_ble_eq_true rfl)) dX6_reservoirItem_3 ⟨Nat.zero_le _, Nat.zero_le _⟩ ?_
    exact absurd q3_1 hk
  · refine noS0 (As := [.int st, .int 0, .int 1]) (rest := []) CF (kn_X6_checkArgument l hl0 G st 0 1 q3_1) (va_cwS 3 hts gX6_reservoirItem_X6_checkArgument rfl rfl rfl (by decide +kernel) ⟨Nat.le_of_ble_eq_true rfl, Nat.le_of_ble_eq_true rfl⟩) hP hD hS hA hY hZ rfl hl.1 rfl (lv_room (Nat.le_of_ble_eq_true rfl)) dX6_reservoirItem_3 ⟨Nat.le_of_ble_eq_true rfl, Nat.le_of_ble_eq_true rfl⟩ (fun ce q9 H locs hP hD hS hce hcv hcl hgr => ?_)
    exact no_out ht hlk hce hcv hcl hgr hS hP (by first | with_reducible rfl | (simp only [rrStr, sld_eq, q3_1, ↓reduceIte]; done))

set_option maxHeartbeats 4000000 in
set_option maxRecDepth 100000 in
theorem kn2_X6_reservoirItem (l : Launch) (hl0 : l.stackTraces = false) (G : GT) (ad : Nat → Nat) (o : Nat) (sg : RRT) (st sl : Int32) (h0 : okA st 0 1) (hs : ¬ okP sl (resFilled (rrStr sg st).2.2.2.1)) : No l yX6_reservoirItem wsX6_reservoirItem { frames := 7, cells := 1, slots := 6, locals := 122 } G (wRR G ad o sg) (wRR G ad o sg) [.ref (ad o), .int st, .int sl] "java/lang/IndexOutOfBoundsException" := by
  intro sz
  obtain ⟨k, s0, s1, mp, md⟩ := sg
  refine vx_ofW (cc := cX6_reservoirItem) (maxL := 4) (ret := (some .int)) (by decide) rfl ?_
  intro p e s m args below meth c s₁ B hml ht hv
  obtain ⟨rfl, hsz, hP, hY, hD0, hZ0⟩ := hv
  subst hsz
  have hD := hD0.self (sz := s.heap.size)
  generalize hAe : va_A (wRR G ad o (k, s0, s1, mp, md)) s.heap.size = A at hD hZ0 ⊢
  have hZ : Zs A s s.heap := hZ0
  have hA : ∀ q : Nat, s.heap.size ≤ q → A q := fun q h => by rw [← hAe]; exact Or.inr h
  have hS : va_S A s.heap s.heap [] := va_S.rf
  have hx := B.exec
  have hb := B.bytes
  have hr := B.returns
  have hts := atoms_spec (ws := wsX6_reservoirItem) B.pre
  have hown : s.vm.findClass RX6 = some m.cls := findClass_of_methodNamed B.named
  have hlk := B.notSynchronized
  have CF : CallFix p m c cX6_reservoirItem 4 s _ wsX6_reservoirItem RX6 := ⟨hx, hb, hml, hown, hts⟩
  have hiX5 : ∀ w ∈ wsX50, w ∈ wsX6_reservoirItem := fun w h => (List.mem_cons_of_mem _ (List.mem_append_left _ (List.mem_append_left _ (List.mem_append_left _ (List.mem_append_left _ (List.mem_append_right _ h))))))
  have hl := lv_entry ([.ref (ad o), .int st, .int sl]) (n := 4) (Nat.le_of_ble_eq_true rfl)
  rw [lg_entry_eq]
  generalize (lg_sl ([.ref (ad o), .int st, .int sl]) ++ List.replicate (4 - (lg_sl ([.ref (ad o), .int st, .int sl])).length) Slot.unset).toArray = ls at hl ⊢
  have hl : lv_has ls 4 [(0, .ref (ad o)), (1, .int st), (2, .int sl)] := hl
  refine lv_iload_n hx hb dX6_reservoirItem_0 rfl (lv_at hl 1 rfl) ?_
  refine lv_iconst (v := 0) hx hb dX6_reservoirItem_1 (by decide) ?_
  refine lv_iconst (v := 1) hx hb dX6_reservoirItem_2 (by decide) ?_
  refine rvS (w0 := []) (As := [.int st, .int 0, .int 1]) (rest := []) CF (k_X6_checkArgument l G st 0 1 h0) (va_cwS 3 hts gX6_reservoirItem_X6_checkArgument rfl rfl rfl (by decide +kernel) ⟨Nat.le_of_ble_eq_true rfl, Nat.le_of_ble_eq_true rfl⟩) va_P_nil hY rfl hl.1 rfl (lv_room (Nat.le_of_ble_eq_true rfl)) dX6_reservoirItem_3 ⟨Nat.zero_le _, Nat.zero_le _⟩ ?_
  refine lv_aload_n hx hb dX6_reservoirItem_6 rfl (lv_at hl 0 rfl) ?_
  refine lv_iload_n hx hb dX6_reservoirItem_7 rfl (lv_at hl 1 rfl) ?_
  by_cases q8_1 : st = 0
  · refine rdV (w0 := (wRR G ad o (k, s0, s1, mp, md))) (As := [.int st]) (rest := []) CF (k0_X6_streamOf l G ad o (k, s0, s1, mp, md) st q8_1) (cwV 1 hts gX6_reservoirItem_X6_streamOf rfl rfl rfl (by decide +kernel) ⟨Nat.le_of_ble_eq_true rfl, Nat.le_of_ble_eq_true rfl⟩) hP hY rfl rfl rfl hl.1 rfl (lv_room (Nat.le_of_ble_eq_true rfl)) dX6_reservoirItem_8 ⟨Nat.zero_le _, Nat.zero_le _⟩ ?_
    have hQ2 := va_P.subm (u := wStr G ad (o+1) s0) (fun q h => by simp only [wRR, List.mem_cons, List.mem_append, h, true_or, or_true]) hP
    refine va_getN (D := G.1) (ci := 5) (v := .ref (ad (o+1+1))) (C := RX5) (T := TX5) (N := 11) hx hb hts hiX5 hown hY.1 hQ2 0 rfl rfl 0 (by decide) (va_Nw.use rfl (hY.2.1 (.fieldLinkNest RX6 71 RX5 "reservoir" "LReservoirReed$Reservoir;" RX6) (List.mem_of_getElem? (i := 13) rfl))) (fun _ h9 => h9) rfl dX6_reservoirItem_11 ?_
    refine lv_astore_n (lv' := [(3, .ref (ad (o+1+1))), (0, .ref (ad o)), (1, .int st), (2, .int sl)]) hx hb dX6_reservoirItem_14 rfl hl (by decide) rfl (fun ls hl => ?_)
    refine lv_iload_n hx hb dX6_reservoirItem_15 rfl (lv_at hl 3 rfl) ?_
    refine lv_aload_n hx hb dX6_reservoirItem_16 rfl (lv_at hl 0 rfl) ?_
    have hQ3 := va_P.subm (u := wRes G ad (o+1+1) s0.2.2.2.1) (fun q h => by simp only [wStr, wRR, List.mem_cons, List.mem_append, h, true_or, or_true]) hP
    refine rdV (w0 := (wRes G ad (o+1+1) s0.2.2.2.1)) (As := []) (rest := [.int sl]) CF (k_X4_filled l G ad (o+1+1) s0.2.2.2.1) (cwV 0 hts gX6_reservoirItem_X4_filled rfl rfl rfl (by decide +kernel) ⟨Nat.le_of_ble_eq_true rfl, Nat.le_of_ble_eq_true rfl⟩) hQ3 hY rfl rfl rfl hl.1 rfl (lv_room (Nat.le_of_ble_eq_true rfl)) dX6_reservoirItem_17 ⟨Nat.zero_le _, Nat.zero_le _⟩ ?_
    refine noS0 (As := [.int sl, .int (resFilled s0.2.2.2.1)]) (rest := []) CF (kn_X6_checkPlace l hl0 G sl (resFilled s0.2.2.2.1) (by simpa only [rrStr, eq_true q8_1, ↓reduceIte] using hs)) (va_cwS 2 hts gX6_reservoirItem_X6_checkPlace rfl rfl rfl (by decide +kernel) ⟨Nat.le_of_ble_eq_true rfl, Nat.le_of_ble_eq_true rfl⟩) hP hD hS hA hY hZ rfl hl.1 rfl (lv_room (Nat.le_of_ble_eq_true rfl)) dX6_reservoirItem_20 ⟨Nat.le_of_ble_eq_true rfl, Nat.le_of_ble_eq_true rfl⟩ (fun ce q9 H locs hP hD hS hce hcv hcl hgr => ?_)
    exact no_out ht hlk hce hcv hcl hgr hS hP (by first | with_reducible rfl | (simp only [rrStr, sld_eq, eq_true q8_1, ↓reduceIte]; done))
  · refine rdV (w0 := (wRR G ad o (k, s0, s1, mp, md))) (As := [.int st]) (rest := []) CF (k1_X6_streamOf l G ad o (k, s0, s1, mp, md) st q8_1) (cwV 1 hts gX6_reservoirItem_X6_streamOf rfl rfl rfl (by decide +kernel) ⟨Nat.le_of_ble_eq_true rfl, Nat.le_of_ble_eq_true rfl⟩) hP hY rfl rfl rfl hl.1 rfl (lv_room (Nat.le_of_ble_eq_true rfl)) dX6_reservoirItem_8 ⟨Nat.zero_le _, Nat.zero_le _⟩ ?_
    have hQ4 := va_P.subm (u := wStr G ad (o+32) s1) (fun q h => by simp only [wRR, List.mem_cons, List.mem_append, h, true_or, or_true]) hP
    refine va_getN (D := G.1) (ci := 5) (v := .ref (ad (o+32+1))) (C := RX5) (T := TX5) (N := 11) hx hb hts hiX5 hown hY.1 hQ4 0 rfl rfl 0 (by decide) (va_Nw.use rfl (hY.2.1 (.fieldLinkNest RX6 71 RX5 "reservoir" "LReservoirReed$Reservoir;" RX6) (List.mem_of_getElem? (i := 13) rfl))) (fun _ h9 => h9) rfl dX6_reservoirItem_11 ?_
    refine lv_astore_n (lv' := [(3, .ref (ad (o+32+1))), (0, .ref (ad o)), (1, .int st), (2, .int sl)]) hx hb dX6_reservoirItem_14 rfl hl (by decide) rfl (fun ls hl => ?_)
    refine lv_iload_n hx hb dX6_reservoirItem_15 rfl (lv_at hl 3 rfl) ?_
    refine lv_aload_n hx hb dX6_reservoirItem_16 rfl (lv_at hl 0 rfl) ?_
    have hQ5 := va_P.subm (u := wRes G ad (o+32+1) s1.2.2.2.1) (fun q h => by simp only [wStr, wRR, List.mem_cons, List.mem_append, h, true_or, or_true]) hP
    refine rdV (w0 := (wRes G ad (o+32+1) s1.2.2.2.1)) (As := []) (rest := [.int sl]) CF (k_X4_filled l G ad (o+32+1) s1.2.2.2.1) (cwV 0 hts gX6_reservoirItem_X4_filled rfl rfl rfl (by decide +kernel) ⟨Nat.le_of_ble_eq_true rfl, Nat.le_of_ble_eq_true rfl⟩) hQ5 hY rfl rfl rfl hl.1 rfl (lv_room (Nat.le_of_ble_eq_true rfl)) dX6_reservoirItem_17 ⟨Nat.zero_le _, Nat.zero_le _⟩ ?_
    refine noS0 (As := [.int sl, .int (resFilled s1.2.2.2.1)]) (rest := []) CF (kn_X6_checkPlace l hl0 G sl (resFilled s1.2.2.2.1) (by simpa only [rrStr, q8_1, ↓reduceIte] using hs)) (va_cwS 2 hts gX6_reservoirItem_X6_checkPlace rfl rfl rfl (by decide +kernel) ⟨Nat.le_of_ble_eq_true rfl, Nat.le_of_ble_eq_true rfl⟩) hP hD hS hA hY hZ rfl hl.1 rfl (lv_room (Nat.le_of_ble_eq_true rfl)) dX6_reservoirItem_20 ⟨Nat.le_of_ble_eq_true rfl, Nat.le_of_ble_eq_true rfl⟩ (fun ce q9 H locs hP hD hS hce hcv hcl hgr => ?_)
    exact no_out ht hlk hce hcv hcl hgr hS hP (by first | with_reducible rfl | (simp only [rrStr, sld_eq, q8_1, ↓reduceIte]; done))

set_option maxHeartbeats 4000000 in
set_option maxRecDepth 100000 in
theorem k_X6_reservoirPosition (l : Launch) (G : GT) (ad : Nat → Nat) (o : Nat) (sg : RRT) (st sl : Int32) (h0 : okA st 0 1) (hs : okP sl (resFilled (rrStr sg st).2.2.2.1)) : Rd l yX6_reservoirPosition wsX6_reservoirPosition { frames := 7, cells := 0, slots := 0, locals := 122 } G (wRR G ad o sg) [.ref (ad o), .int st, .int sl] (.int (at_ 16 (rrStr sg st).2.2.2.1.2.2.2 sl)) := by
  obtain ⟨k, s0, s1, mp, md⟩ := sg
  refine Met.ofW (cc := cX6_reservoirPosition) (maxL := 4) (ret := (some .int)) (by decide) rfl ?_
  intro p e s m args below meth c s₁ B hml hv
  obtain ⟨rfl, hP, hY⟩ := hv
  have hx := B.exec
  have hb := B.bytes
  have hr := B.returns
  have hts := atoms_spec (ws := wsX6_reservoirPosition) B.pre
  have hown : s.vm.findClass RX6 = some m.cls := findClass_of_methodNamed B.named
  have hlk := B.notSynchronized
  have CF : CallFix p m c cX6_reservoirPosition 4 s _ wsX6_reservoirPosition RX6 := ⟨hx, hb, hml, hown, hts⟩
  have hiX5 : ∀ w ∈ wsX50, w ∈ wsX6_reservoirPosition := fun w h => (List.mem_cons_of_mem _ (List.mem_append_left _ (List.mem_append_left _ (List.mem_append_left _ (List.mem_append_left _ (List.mem_append_right _ h))))))
  have hiX4 : ∀ w ∈ wsX40, w ∈ wsX6_reservoirPosition := fun w h => (List.mem_cons_of_mem _ (List.mem_append_left _ (List.mem_append_left _ (List.mem_append_left _ (List.mem_append_right _ h)))))
  have hl := lv_entry ([.ref (ad o), .int st, .int sl]) (n := 4) (Nat.le_of_ble_eq_true rfl)
  rw [lg_entry_eq]
  generalize (lg_sl ([.ref (ad o), .int st, .int sl]) ++ List.replicate (4 - (lg_sl ([.ref (ad o), .int st, .int sl])).length) Slot.unset).toArray = ls at hl ⊢
  have hl : lv_has ls 4 [(0, .ref (ad o)), (1, .int st), (2, .int sl)] := hl
  refine lv_iload_n hx hb dX6_reservoirPosition_0 rfl (lv_at hl 1 rfl) ?_
  refine lv_iconst (v := 0) hx hb dX6_reservoirPosition_1 (by decide) ?_
  refine lv_iconst (v := 1) hx hb dX6_reservoirPosition_2 (by decide) ?_
  refine rvS (w0 := []) (As := [.int st, .int 0, .int 1]) (rest := []) CF (k_X6_checkArgument l G st 0 1 h0) (va_cwS 3 hts gX6_reservoirPosition_X6_checkArgument rfl rfl rfl (by decide +kernel) ⟨Nat.le_of_ble_eq_true rfl, Nat.le_of_ble_eq_true rfl⟩) va_P_nil hY rfl hl.1 rfl (lv_room (Nat.le_of_ble_eq_true rfl)) dX6_reservoirPosition_3 ⟨Nat.zero_le _, Nat.zero_le _⟩ ?_
  refine lv_aload_n hx hb dX6_reservoirPosition_6 rfl (lv_at hl 0 rfl) ?_
  refine lv_iload_n hx hb dX6_reservoirPosition_7 rfl (lv_at hl 1 rfl) ?_
  by_cases q8_1 : st = 0
  · refine rdV (w0 := (wRR G ad o (k, s0, s1, mp, md))) (As := [.int st]) (rest := []) CF (k0_X6_streamOf l G ad o (k, s0, s1, mp, md) st q8_1) (cwV 1 hts gX6_reservoirPosition_X6_streamOf rfl rfl rfl (by decide +kernel) ⟨Nat.le_of_ble_eq_true rfl, Nat.le_of_ble_eq_true rfl⟩) hP hY rfl rfl rfl hl.1 rfl (lv_room (Nat.le_of_ble_eq_true rfl)) dX6_reservoirPosition_8 ⟨Nat.zero_le _, Nat.zero_le _⟩ ?_
    have hQ2 := va_P.subm (u := wStr G ad (o+1) s0) (fun q h => by simp only [wRR, List.mem_cons, List.mem_append, h, true_or, or_true]) hP
    refine va_getN (D := G.1) (ci := 5) (v := .ref (ad (o+1+1))) (C := RX5) (T := TX5) (N := 11) hx hb hts hiX5 hown hY.1 hQ2 0 rfl rfl 0 (by decide) (va_Nw.use rfl (hY.2.1 (.fieldLinkNest RX6 71 RX5 "reservoir" "LReservoirReed$Reservoir;" RX6) (List.mem_of_getElem? (i := 13) rfl))) (fun _ h9 => h9) rfl dX6_reservoirPosition_11 ?_
    refine lv_astore_n (lv' := [(3, .ref (ad (o+1+1))), (0, .ref (ad o)), (1, .int st), (2, .int sl)]) hx hb dX6_reservoirPosition_14 rfl hl (by decide) rfl (fun ls hl => ?_)
    refine lv_iload_n hx hb dX6_reservoirPosition_15 rfl (lv_at hl 3 rfl) ?_
    refine lv_aload_n hx hb dX6_reservoirPosition_16 rfl (lv_at hl 0 rfl) ?_
    have hQ3 := va_P.subm (u := wRes G ad (o+1+1) s0.2.2.2.1) (fun q h => by simp only [wStr, wRR, List.mem_cons, List.mem_append, h, true_or, or_true]) hP
    refine rdV (w0 := (wRes G ad (o+1+1) s0.2.2.2.1)) (As := []) (rest := [.int sl]) CF (k_X4_filled l G ad (o+1+1) s0.2.2.2.1) (cwV 0 hts gX6_reservoirPosition_X4_filled rfl rfl rfl (by decide +kernel) ⟨Nat.le_of_ble_eq_true rfl, Nat.le_of_ble_eq_true rfl⟩) hQ3 hY rfl rfl rfl hl.1 rfl (lv_room (Nat.le_of_ble_eq_true rfl)) dX6_reservoirPosition_17 ⟨Nat.zero_le _, Nat.zero_le _⟩ ?_
    refine rvS (w0 := []) (As := [.int sl, .int (resFilled s0.2.2.2.1)]) (rest := []) CF (k_X6_checkPlace l G sl (resFilled s0.2.2.2.1) (by simpa only [rrStr, eq_true q8_1, ↓reduceIte] using hs)) (va_cwS 2 hts gX6_reservoirPosition_X6_checkPlace rfl rfl rfl (by decide +kernel) ⟨Nat.le_of_ble_eq_true rfl, Nat.le_of_ble_eq_true rfl⟩) va_P_nil hY rfl hl.1 rfl (lv_room (Nat.le_of_ble_eq_true rfl)) dX6_reservoirPosition_20 ⟨Nat.zero_le _, Nat.zero_le _⟩ ?_
    refine lv_aload_n hx hb dX6_reservoirPosition_23 rfl (lv_at hl 0 rfl) ?_
    have hQ4 := va_P.subm (u := wRes G ad (o+1+1) s0.2.2.2.1) (fun q h => by simp only [wStr, wRR, List.mem_cons, List.mem_append, h, true_or, or_true]) hP
    refine va_getN (D := G.1) (ci := 4) (v := .ref (ad (o+1+1+2))) (C := RX4) (T := TX4) (N := 4) hx hb hts hiX4 hown hY.1 hQ4 0 rfl rfl 1 (by decide) (va_Nw.use rfl (hY.2.1 (.fieldLinkNest RX6 92 RX4 "positions" "[I" RX6) (List.mem_of_getElem? (i := 15) rfl))) (fun _ h9 => h9) rfl dX6_reservoirPosition_24 ?_
    refine lv_iload_n hx hb dX6_reservoirPosition_27 rfl (lv_at hl 3 rfl) ?_
    have hQ5 := va_P.subm (u := wRes G ad (o+1+1) s0.2.2.2.1) (fun q h => by simp only [wStr, wRR, List.mem_cons, List.mem_append, h, true_or, or_true]) hP
    refine rdS (w0 := [(ad (o+1+1+2), .inl (G.2.1, 16, .inl s0.2.2.2.1.2.2.2))]) (As := [.ref (ad (o+1+1+2)), .int sl]) (rest := []) CF (k_X6_at l G 16 (ad (o+1+1+2)) s0.2.2.2.1.2.2.2 sl (by decide)) (va_cwS 2 hts gX6_reservoirPosition_X6_at rfl rfl rfl (by decide +kernel) ⟨Nat.le_of_ble_eq_true rfl, Nat.le_of_ble_eq_true rfl⟩) (hQ5.sub (ws' := [(ad (o+1+1+2), .inl (G.2.1, 16, .inl s0.2.2.2.1.2.2.2))]) [2] rfl) hY rfl hl.1 rfl (lv_room (Nat.le_of_ble_eq_true rfl)) dX6_reservoirPosition_28 ⟨Nat.zero_le _, Nat.zero_le _⟩ ?_
    exact rd_iret hx hb hr hlk (by first | with_reducible rfl | (simp only [rrStr, sld_eq, eq_true q8_1, ↓reduceIte]; done)) dX6_reservoirPosition_31
  · refine rdV (w0 := (wRR G ad o (k, s0, s1, mp, md))) (As := [.int st]) (rest := []) CF (k1_X6_streamOf l G ad o (k, s0, s1, mp, md) st q8_1) (cwV 1 hts gX6_reservoirPosition_X6_streamOf rfl rfl rfl (by decide +kernel) ⟨Nat.le_of_ble_eq_true rfl, Nat.le_of_ble_eq_true rfl⟩) hP hY rfl rfl rfl hl.1 rfl (lv_room (Nat.le_of_ble_eq_true rfl)) dX6_reservoirPosition_8 ⟨Nat.zero_le _, Nat.zero_le _⟩ ?_
    have hQ6 := va_P.subm (u := wStr G ad (o+32) s1) (fun q h => by simp only [wRR, List.mem_cons, List.mem_append, h, true_or, or_true]) hP
    refine va_getN (D := G.1) (ci := 5) (v := .ref (ad (o+32+1))) (C := RX5) (T := TX5) (N := 11) hx hb hts hiX5 hown hY.1 hQ6 0 rfl rfl 0 (by decide) (va_Nw.use rfl (hY.2.1 (.fieldLinkNest RX6 71 RX5 "reservoir" "LReservoirReed$Reservoir;" RX6) (List.mem_of_getElem? (i := 13) rfl))) (fun _ h9 => h9) rfl dX6_reservoirPosition_11 ?_
    refine lv_astore_n (lv' := [(3, .ref (ad (o+32+1))), (0, .ref (ad o)), (1, .int st), (2, .int sl)]) hx hb dX6_reservoirPosition_14 rfl hl (by decide) rfl (fun ls hl => ?_)
    refine lv_iload_n hx hb dX6_reservoirPosition_15 rfl (lv_at hl 3 rfl) ?_
    refine lv_aload_n hx hb dX6_reservoirPosition_16 rfl (lv_at hl 0 rfl) ?_
    have hQ7 := va_P.subm (u := wRes G ad (o+32+1) s1.2.2.2.1) (fun q h => by simp only [wStr, wRR, List.mem_cons, List.mem_append, h, true_or, or_true]) hP
    refine rdV (w0 := (wRes G ad (o+32+1) s1.2.2.2.1)) (As := []) (rest := [.int sl]) CF (k_X4_filled l G ad (o+32+1) s1.2.2.2.1) (cwV 0 hts gX6_reservoirPosition_X4_filled rfl rfl rfl (by decide +kernel) ⟨Nat.le_of_ble_eq_true rfl, Nat.le_of_ble_eq_true rfl⟩) hQ7 hY rfl rfl rfl hl.1 rfl (lv_room (Nat.le_of_ble_eq_true rfl)) dX6_reservoirPosition_17 ⟨Nat.zero_le _, Nat.zero_le _⟩ ?_
    refine rvS (w0 := []) (As := [.int sl, .int (resFilled s1.2.2.2.1)]) (rest := []) CF (k_X6_checkPlace l G sl (resFilled s1.2.2.2.1) (by simpa only [rrStr, q8_1, ↓reduceIte] using hs)) (va_cwS 2 hts gX6_reservoirPosition_X6_checkPlace rfl rfl rfl (by decide +kernel) ⟨Nat.le_of_ble_eq_true rfl, Nat.le_of_ble_eq_true rfl⟩) va_P_nil hY rfl hl.1 rfl (lv_room (Nat.le_of_ble_eq_true rfl)) dX6_reservoirPosition_20 ⟨Nat.zero_le _, Nat.zero_le _⟩ ?_
    refine lv_aload_n hx hb dX6_reservoirPosition_23 rfl (lv_at hl 0 rfl) ?_
    have hQ8 := va_P.subm (u := wRes G ad (o+32+1) s1.2.2.2.1) (fun q h => by simp only [wStr, wRR, List.mem_cons, List.mem_append, h, true_or, or_true]) hP
    refine va_getN (D := G.1) (ci := 4) (v := .ref (ad (o+32+1+2))) (C := RX4) (T := TX4) (N := 4) hx hb hts hiX4 hown hY.1 hQ8 0 rfl rfl 1 (by decide) (va_Nw.use rfl (hY.2.1 (.fieldLinkNest RX6 92 RX4 "positions" "[I" RX6) (List.mem_of_getElem? (i := 15) rfl))) (fun _ h9 => h9) rfl dX6_reservoirPosition_24 ?_
    refine lv_iload_n hx hb dX6_reservoirPosition_27 rfl (lv_at hl 3 rfl) ?_
    have hQ9 := va_P.subm (u := wRes G ad (o+32+1) s1.2.2.2.1) (fun q h => by simp only [wStr, wRR, List.mem_cons, List.mem_append, h, true_or, or_true]) hP
    refine rdS (w0 := [(ad (o+32+1+2), .inl (G.2.1, 16, .inl s1.2.2.2.1.2.2.2))]) (As := [.ref (ad (o+32+1+2)), .int sl]) (rest := []) CF (k_X6_at l G 16 (ad (o+32+1+2)) s1.2.2.2.1.2.2.2 sl (by decide)) (va_cwS 2 hts gX6_reservoirPosition_X6_at rfl rfl rfl (by decide +kernel) ⟨Nat.le_of_ble_eq_true rfl, Nat.le_of_ble_eq_true rfl⟩) (hQ9.sub (ws' := [(ad (o+32+1+2), .inl (G.2.1, 16, .inl s1.2.2.2.1.2.2.2))]) [2] rfl) hY rfl hl.1 rfl (lv_room (Nat.le_of_ble_eq_true rfl)) dX6_reservoirPosition_28 ⟨Nat.zero_le _, Nat.zero_le _⟩ ?_
    exact rd_iret hx hb hr hlk (by first | with_reducible rfl | (simp only [rrStr, sld_eq, q8_1, ↓reduceIte]; done)) dX6_reservoirPosition_31

set_option maxHeartbeats 4000000 in
set_option maxRecDepth 100000 in
theorem kn_X6_reservoirPosition (l : Launch) (hl0 : l.stackTraces = false) (G : GT) (ad : Nat → Nat) (o : Nat) (sg : RRT) (st sl : Int32) (hk : ¬ (okA st 0 1)) : No l yX6_reservoirPosition wsX6_reservoirPosition { frames := 7, cells := 1, slots := 6, locals := 122 } G (wRR G ad o sg) (wRR G ad o sg) [.ref (ad o), .int st, .int sl] "java/lang/IllegalArgumentException" := by
  intro sz
  obtain ⟨k, s0, s1, mp, md⟩ := sg
  refine vx_ofW (cc := cX6_reservoirPosition) (maxL := 4) (ret := (some .int)) (by decide) rfl ?_
  intro p e s m args below meth c s₁ B hml ht hv
  obtain ⟨rfl, hsz, hP, hY, hD0, hZ0⟩ := hv
  subst hsz
  have hD := hD0.self (sz := s.heap.size)
  generalize hAe : va_A (wRR G ad o (k, s0, s1, mp, md)) s.heap.size = A at hD hZ0 ⊢
  have hZ : Zs A s s.heap := hZ0
  have hA : ∀ q : Nat, s.heap.size ≤ q → A q := fun q h => by rw [← hAe]; exact Or.inr h
  have hS : va_S A s.heap s.heap [] := va_S.rf
  have hx := B.exec
  have hb := B.bytes
  have hr := B.returns
  have hts := atoms_spec (ws := wsX6_reservoirPosition) B.pre
  have hown : s.vm.findClass RX6 = some m.cls := findClass_of_methodNamed B.named
  have hlk := B.notSynchronized
  have CF : CallFix p m c cX6_reservoirPosition 4 s _ wsX6_reservoirPosition RX6 := ⟨hx, hb, hml, hown, hts⟩
  have hl := lv_entry ([.ref (ad o), .int st, .int sl]) (n := 4) (Nat.le_of_ble_eq_true rfl)
  rw [lg_entry_eq]
  generalize (lg_sl ([.ref (ad o), .int st, .int sl]) ++ List.replicate (4 - (lg_sl ([.ref (ad o), .int st, .int sl])).length) Slot.unset).toArray = ls at hl ⊢
  have hl : lv_has ls 4 [(0, .ref (ad o)), (1, .int st), (2, .int sl)] := hl
  refine lv_iload_n hx hb dX6_reservoirPosition_0 rfl (lv_at hl 1 rfl) ?_
  refine lv_iconst (v := 0) hx hb dX6_reservoirPosition_1 (by decide) ?_
  refine lv_iconst (v := 1) hx hb dX6_reservoirPosition_2 (by decide) ?_
  by_cases q3_1 : okA st 0 1
  · refine rvS (w0 := []) (As := [.int st, .int 0, .int 1]) (rest := []) CF (k_X6_checkArgument l G st 0 1 q3_1) (va_cwS 3 hts gX6_reservoirPosition_X6_checkArgument rfl rfl rfl (by decide +kernel) ⟨Nat.le_of_ble_eq_true rfl, Nat.le_of_ble_eq_true rfl⟩) va_P_nil hY rfl hl.1 rfl (lv_room (Nat.le_of_ble_eq_true rfl)) dX6_reservoirPosition_3 ⟨Nat.zero_le _, Nat.zero_le _⟩ ?_
    exact absurd q3_1 hk
  · refine noS0 (As := [.int st, .int 0, .int 1]) (rest := []) CF (kn_X6_checkArgument l hl0 G st 0 1 q3_1) (va_cwS 3 hts gX6_reservoirPosition_X6_checkArgument rfl rfl rfl (by decide +kernel) ⟨Nat.le_of_ble_eq_true rfl, Nat.le_of_ble_eq_true rfl⟩) hP hD hS hA hY hZ rfl hl.1 rfl (lv_room (Nat.le_of_ble_eq_true rfl)) dX6_reservoirPosition_3 ⟨Nat.le_of_ble_eq_true rfl, Nat.le_of_ble_eq_true rfl⟩ (fun ce q9 H locs hP hD hS hce hcv hcl hgr => ?_)
    exact no_out ht hlk hce hcv hcl hgr hS hP (by first | with_reducible rfl | (simp only [rrStr, sld_eq, q3_1, ↓reduceIte]; done))

set_option maxHeartbeats 4000000 in
set_option maxRecDepth 100000 in
theorem kn2_X6_reservoirPosition (l : Launch) (hl0 : l.stackTraces = false) (G : GT) (ad : Nat → Nat) (o : Nat) (sg : RRT) (st sl : Int32) (h0 : okA st 0 1) (hs : ¬ okP sl (resFilled (rrStr sg st).2.2.2.1)) : No l yX6_reservoirPosition wsX6_reservoirPosition { frames := 7, cells := 1, slots := 6, locals := 122 } G (wRR G ad o sg) (wRR G ad o sg) [.ref (ad o), .int st, .int sl] "java/lang/IndexOutOfBoundsException" := by
  intro sz
  obtain ⟨k, s0, s1, mp, md⟩ := sg
  refine vx_ofW (cc := cX6_reservoirPosition) (maxL := 4) (ret := (some .int)) (by decide) rfl ?_
  intro p e s m args below meth c s₁ B hml ht hv
  obtain ⟨rfl, hsz, hP, hY, hD0, hZ0⟩ := hv
  subst hsz
  have hD := hD0.self (sz := s.heap.size)
  generalize hAe : va_A (wRR G ad o (k, s0, s1, mp, md)) s.heap.size = A at hD hZ0 ⊢
  have hZ : Zs A s s.heap := hZ0
  have hA : ∀ q : Nat, s.heap.size ≤ q → A q := fun q h => by rw [← hAe]; exact Or.inr h
  have hS : va_S A s.heap s.heap [] := va_S.rf
  have hx := B.exec
  have hb := B.bytes
  have hr := B.returns
  have hts := atoms_spec (ws := wsX6_reservoirPosition) B.pre
  have hown : s.vm.findClass RX6 = some m.cls := findClass_of_methodNamed B.named
  have hlk := B.notSynchronized
  have CF : CallFix p m c cX6_reservoirPosition 4 s _ wsX6_reservoirPosition RX6 := ⟨hx, hb, hml, hown, hts⟩
  have hiX5 : ∀ w ∈ wsX50, w ∈ wsX6_reservoirPosition := fun w h => (List.mem_cons_of_mem _ (List.mem_append_left _ (List.mem_append_left _ (List.mem_append_left _ (List.mem_append_left _ (List.mem_append_right _ h))))))
  have hl := lv_entry ([.ref (ad o), .int st, .int sl]) (n := 4) (Nat.le_of_ble_eq_true rfl)
  rw [lg_entry_eq]
  generalize (lg_sl ([.ref (ad o), .int st, .int sl]) ++ List.replicate (4 - (lg_sl ([.ref (ad o), .int st, .int sl])).length) Slot.unset).toArray = ls at hl ⊢
  have hl : lv_has ls 4 [(0, .ref (ad o)), (1, .int st), (2, .int sl)] := hl
  refine lv_iload_n hx hb dX6_reservoirPosition_0 rfl (lv_at hl 1 rfl) ?_
  refine lv_iconst (v := 0) hx hb dX6_reservoirPosition_1 (by decide) ?_
  refine lv_iconst (v := 1) hx hb dX6_reservoirPosition_2 (by decide) ?_
  refine rvS (w0 := []) (As := [.int st, .int 0, .int 1]) (rest := []) CF (k_X6_checkArgument l G st 0 1 h0) (va_cwS 3 hts gX6_reservoirPosition_X6_checkArgument rfl rfl rfl (by decide +kernel) ⟨Nat.le_of_ble_eq_true rfl, Nat.le_of_ble_eq_true rfl⟩) va_P_nil hY rfl hl.1 rfl (lv_room (Nat.le_of_ble_eq_true rfl)) dX6_reservoirPosition_3 ⟨Nat.zero_le _, Nat.zero_le _⟩ ?_
  refine lv_aload_n hx hb dX6_reservoirPosition_6 rfl (lv_at hl 0 rfl) ?_
  refine lv_iload_n hx hb dX6_reservoirPosition_7 rfl (lv_at hl 1 rfl) ?_
  by_cases q8_1 : st = 0
  · refine rdV (w0 := (wRR G ad o (k, s0, s1, mp, md))) (As := [.int st]) (rest := []) CF (k0_X6_streamOf l G ad o (k, s0, s1, mp, md) st q8_1) (cwV 1 hts gX6_reservoirPosition_X6_streamOf rfl rfl rfl (by decide +kernel) ⟨Nat.le_of_ble_eq_true rfl, Nat.le_of_ble_eq_true rfl⟩) hP hY rfl rfl rfl hl.1 rfl (lv_room (Nat.le_of_ble_eq_true rfl)) dX6_reservoirPosition_8 ⟨Nat.zero_le _, Nat.zero_le _⟩ ?_
    have hQ2 := va_P.subm (u := wStr G ad (o+1) s0) (fun q h => by simp only [wRR, List.mem_cons, List.mem_append, h, true_or, or_true]) hP
    refine va_getN (D := G.1) (ci := 5) (v := .ref (ad (o+1+1))) (C := RX5) (T := TX5) (N := 11) hx hb hts hiX5 hown hY.1 hQ2 0 rfl rfl 0 (by decide) (va_Nw.use rfl (hY.2.1 (.fieldLinkNest RX6 71 RX5 "reservoir" "LReservoirReed$Reservoir;" RX6) (List.mem_of_getElem? (i := 13) rfl))) (fun _ h9 => h9) rfl dX6_reservoirPosition_11 ?_
    refine lv_astore_n (lv' := [(3, .ref (ad (o+1+1))), (0, .ref (ad o)), (1, .int st), (2, .int sl)]) hx hb dX6_reservoirPosition_14 rfl hl (by decide) rfl (fun ls hl => ?_)
    refine lv_iload_n hx hb dX6_reservoirPosition_15 rfl (lv_at hl 3 rfl) ?_
    refine lv_aload_n hx hb dX6_reservoirPosition_16 rfl (lv_at hl 0 rfl) ?_
    have hQ3 := va_P.subm (u := wRes G ad (o+1+1) s0.2.2.2.1) (fun q h => by simp only [wStr, wRR, List.mem_cons, List.mem_append, h, true_or, or_true]) hP
    refine rdV (w0 := (wRes G ad (o+1+1) s0.2.2.2.1)) (As := []) (rest := [.int sl]) CF (k_X4_filled l G ad (o+1+1) s0.2.2.2.1) (cwV 0 hts gX6_reservoirPosition_X4_filled rfl rfl rfl (by decide +kernel) ⟨Nat.le_of_ble_eq_true rfl, Nat.le_of_ble_eq_true rfl⟩) hQ3 hY rfl rfl rfl hl.1 rfl (lv_room (Nat.le_of_ble_eq_true rfl)) dX6_reservoirPosition_17 ⟨Nat.zero_le _, Nat.zero_le _⟩ ?_
    refine noS0 (As := [.int sl, .int (resFilled s0.2.2.2.1)]) (rest := []) CF (kn_X6_checkPlace l hl0 G sl (resFilled s0.2.2.2.1) (by simpa only [rrStr, eq_true q8_1, ↓reduceIte] using hs)) (va_cwS 2 hts gX6_reservoirPosition_X6_checkPlace rfl rfl rfl (by decide +kernel) ⟨Nat.le_of_ble_eq_true rfl, Nat.le_of_ble_eq_true rfl⟩) hP hD hS hA hY hZ rfl hl.1 rfl (lv_room (Nat.le_of_ble_eq_true rfl)) dX6_reservoirPosition_20 ⟨Nat.le_of_ble_eq_true rfl, Nat.le_of_ble_eq_true rfl⟩ (fun ce q9 H locs hP hD hS hce hcv hcl hgr => ?_)
    exact no_out ht hlk hce hcv hcl hgr hS hP (by first | with_reducible rfl | (simp only [rrStr, sld_eq, eq_true q8_1, ↓reduceIte]; done))
  · refine rdV (w0 := (wRR G ad o (k, s0, s1, mp, md))) (As := [.int st]) (rest := []) CF (k1_X6_streamOf l G ad o (k, s0, s1, mp, md) st q8_1) (cwV 1 hts gX6_reservoirPosition_X6_streamOf rfl rfl rfl (by decide +kernel) ⟨Nat.le_of_ble_eq_true rfl, Nat.le_of_ble_eq_true rfl⟩) hP hY rfl rfl rfl hl.1 rfl (lv_room (Nat.le_of_ble_eq_true rfl)) dX6_reservoirPosition_8 ⟨Nat.zero_le _, Nat.zero_le _⟩ ?_
    have hQ4 := va_P.subm (u := wStr G ad (o+32) s1) (fun q h => by simp only [wRR, List.mem_cons, List.mem_append, h, true_or, or_true]) hP
    refine va_getN (D := G.1) (ci := 5) (v := .ref (ad (o+32+1))) (C := RX5) (T := TX5) (N := 11) hx hb hts hiX5 hown hY.1 hQ4 0 rfl rfl 0 (by decide) (va_Nw.use rfl (hY.2.1 (.fieldLinkNest RX6 71 RX5 "reservoir" "LReservoirReed$Reservoir;" RX6) (List.mem_of_getElem? (i := 13) rfl))) (fun _ h9 => h9) rfl dX6_reservoirPosition_11 ?_
    refine lv_astore_n (lv' := [(3, .ref (ad (o+32+1))), (0, .ref (ad o)), (1, .int st), (2, .int sl)]) hx hb dX6_reservoirPosition_14 rfl hl (by decide) rfl (fun ls hl => ?_)
    refine lv_iload_n hx hb dX6_reservoirPosition_15 rfl (lv_at hl 3 rfl) ?_
    refine lv_aload_n hx hb dX6_reservoirPosition_16 rfl (lv_at hl 0 rfl) ?_
    have hQ5 := va_P.subm (u := wRes G ad (o+32+1) s1.2.2.2.1) (fun q h => by simp only [wStr, wRR, List.mem_cons, List.mem_append, h, true_or, or_true]) hP
    refine rdV (w0 := (wRes G ad (o+32+1) s1.2.2.2.1)) (As := []) (rest := [.int sl]) CF (k_X4_filled l G ad (o+32+1) s1.2.2.2.1) (cwV 0 hts gX6_reservoirPosition_X4_filled rfl rfl rfl (by decide +kernel) ⟨Nat.le_of_ble_eq_true rfl, Nat.le_of_ble_eq_true rfl⟩) hQ5 hY rfl rfl rfl hl.1 rfl (lv_room (Nat.le_of_ble_eq_true rfl)) dX6_reservoirPosition_17 ⟨Nat.zero_le _, Nat.zero_le _⟩ ?_
    refine noS0 (As := [.int sl, .int (resFilled s1.2.2.2.1)]) (rest := []) CF (kn_X6_checkPlace l hl0 G sl (resFilled s1.2.2.2.1) (by simpa only [rrStr, q8_1, ↓reduceIte] using hs)) (va_cwS 2 hts gX6_reservoirPosition_X6_checkPlace rfl rfl rfl (by decide +kernel) ⟨Nat.le_of_ble_eq_true rfl, Nat.le_of_ble_eq_true rfl⟩) hP hD hS hA hY hZ rfl hl.1 rfl (lv_room (Nat.le_of_ble_eq_true rfl)) dX6_reservoirPosition_20 ⟨Nat.le_of_ble_eq_true rfl, Nat.le_of_ble_eq_true rfl⟩ (fun ce q9 H locs hP hD hS hce hcv hcl hgr => ?_)
    exact no_out ht hlk hce hcv hcl hgr hS hP (by first | with_reducible rfl | (simp only [rrStr, sld_eq, q8_1, ↓reduceIte]; done))

set_option maxHeartbeats 4000000 in
set_option maxRecDepth 100000 in
theorem k_X6_groupOffers (l : Launch) (G : GT) (ad : Nat → Nat) (o : Nat) (sg : RRT) (st gr : Int32) (h0 : okA st 0 1) (h1 : okA gr 0 3) : Rd l yX6_groupOffers wsX6_groupOffers { frames := 7, cells := 0, slots := 0, locals := 122 } G (wRR G ad o sg) [.ref (ad o), .int st, .int gr] (.int ((strGrp (rrStr sg st) gr).2.2.1)) := by
  obtain ⟨k, s0, s1, mp, md⟩ := sg
  refine Met.ofW (cc := cX6_groupOffers) (maxL := 3) (ret := (some .int)) (by decide) rfl ?_
  intro p e s m args below meth c s₁ B hml hv
  obtain ⟨rfl, hP, hY⟩ := hv
  have hx := B.exec
  have hb := B.bytes
  have hr := B.returns
  have hts := atoms_spec (ws := wsX6_groupOffers) B.pre
  have hown : s.vm.findClass RX6 = some m.cls := findClass_of_methodNamed B.named
  have hlk := B.notSynchronized
  have CF : CallFix p m c cX6_groupOffers 3 s _ wsX6_groupOffers RX6 := ⟨hx, hb, hml, hown, hts⟩
  have hiX2 : ∀ w ∈ wsX20, w ∈ wsX6_groupOffers := fun w h => (List.mem_cons_of_mem _ (List.mem_append_left _ (List.mem_append_left _ (List.mem_append_left _ (List.mem_append_left _ (List.mem_append_right _ h))))))
  have hiX4 : ∀ w ∈ wsX40, w ∈ wsX6_groupOffers := fun w h => (List.mem_cons_of_mem _ (List.mem_append_left _ (List.mem_append_left _ (List.mem_append_left _ (List.mem_append_right _ h)))))
  have hl := lv_entry ([.ref (ad o), .int st, .int gr]) (n := 3) (Nat.le_of_ble_eq_true rfl)
  rw [lg_entry_eq]
  generalize (lg_sl ([.ref (ad o), .int st, .int gr]) ++ List.replicate (3 - (lg_sl ([.ref (ad o), .int st, .int gr])).length) Slot.unset).toArray = ls at hl ⊢
  have hl : lv_has ls 3 [(0, .ref (ad o)), (1, .int st), (2, .int gr)] := hl
  refine lv_iload_n hx hb dX6_groupOffers_0 rfl (lv_at hl 1 rfl) ?_
  refine lv_iconst (v := 0) hx hb dX6_groupOffers_1 (by decide) ?_
  refine lv_iconst (v := 1) hx hb dX6_groupOffers_2 (by decide) ?_
  refine rvS (w0 := []) (As := [.int st, .int 0, .int 1]) (rest := []) CF (k_X6_checkArgument l G st 0 1 h0) (va_cwS 3 hts gX6_groupOffers_X6_checkArgument rfl rfl rfl (by decide +kernel) ⟨Nat.le_of_ble_eq_true rfl, Nat.le_of_ble_eq_true rfl⟩) va_P_nil hY rfl hl.1 rfl (lv_room (Nat.le_of_ble_eq_true rfl)) dX6_groupOffers_3 ⟨Nat.zero_le _, Nat.zero_le _⟩ ?_
  refine lv_iload_n hx hb dX6_groupOffers_6 rfl (lv_at hl 2 rfl) ?_
  refine lv_iconst (v := 0) hx hb dX6_groupOffers_7 (by decide) ?_
  refine lv_iconst (v := 3) hx hb dX6_groupOffers_8 (by decide) ?_
  refine rvS (w0 := []) (As := [.int gr, .int 0, .int 3]) (rest := []) CF (k_X6_checkArgument l G gr 0 3 h1) (va_cwS 3 hts gX6_groupOffers_X6_checkArgument rfl rfl rfl (by decide +kernel) ⟨Nat.le_of_ble_eq_true rfl, Nat.le_of_ble_eq_true rfl⟩) va_P_nil hY rfl hl.1 rfl (lv_room (Nat.le_of_ble_eq_true rfl)) dX6_groupOffers_9 ⟨Nat.zero_le _, Nat.zero_le _⟩ ?_
  refine lv_aload_n hx hb dX6_groupOffers_12 rfl (lv_at hl 0 rfl) ?_
  refine lv_iload_n hx hb dX6_groupOffers_13 rfl (lv_at hl 1 rfl) ?_
  by_cases q14_1 : st = 0
  · refine rdV (w0 := (wRR G ad o (k, s0, s1, mp, md))) (As := [.int st]) (rest := []) CF (k0_X6_streamOf l G ad o (k, s0, s1, mp, md) st q14_1) (cwV 1 hts gX6_groupOffers_X6_streamOf rfl rfl rfl (by decide +kernel) ⟨Nat.le_of_ble_eq_true rfl, Nat.le_of_ble_eq_true rfl⟩) hP hY rfl rfl rfl hl.1 rfl (lv_room (Nat.le_of_ble_eq_true rfl)) dX6_groupOffers_14 ⟨Nat.zero_le _, Nat.zero_le _⟩ ?_
    refine lv_iload_n hx hb dX6_groupOffers_17 rfl (lv_at hl 2 rfl) ?_
    by_cases q18_2 : gr = 0
    · have hQ3 := va_P.subm (u := wStr G ad (o+1) s0) (fun q h => by simp only [wRR, List.mem_cons, List.mem_append, h, true_or, or_true]) hP
      refine rdV (w0 := (wStr G ad (o+1) s0)) (As := [.int gr]) (rest := []) CF (k_X5_groupOf l G ad (o+1) s0 gr) (cwV 1 hts gX6_groupOffers_X5_groupOf rfl rfl rfl (by decide +kernel) ⟨Nat.le_of_ble_eq_true rfl, Nat.le_of_ble_eq_true rfl⟩) hQ3 hY rfl rfl rfl hl.1 rfl (lv_room (Nat.le_of_ble_eq_true rfl)) dX6_groupOffers_18 ⟨Nat.zero_le _, Nat.zero_le _⟩ ?_
      rw [show grpRef ad (o+1) gr = ad (o+1+4) from (by simp only [grpRef, eq_true q14_1, eq_true q18_2, ↓reduceIte])]
      have hQ4 := va_P.subm (u := wGrp G ad (o+1+4) s0.2.2.2.2.1) (fun q h => by simp only [wStr, wRR, List.mem_cons, List.mem_append, h, true_or, or_true]) hP
      refine va_getN (D := G.1) (ci := 2) (v := .ref (ad (o+1+4+1))) (C := RX2) (T := TX2) (N := 2) hx hb hts hiX2 hown hY.1 hQ4 0 rfl rfl 0 (by decide) (va_Nw.use rfl (hY.2.1 (.fieldLinkNest RX6 95 RX2 "reservoir" "LReservoirReed$Reservoir;" RX6) (List.mem_of_getElem? (i := 16) rfl))) (fun _ h9 => h9) rfl dX6_groupOffers_21 ?_
      have hQ5 := va_P.subm (u := wRes G ad (o+1+4+1) s0.2.2.2.2.1.2) (fun q h => by simp only [wGrp, wStr, wRR, List.mem_cons, List.mem_append, h, true_or, or_true]) hP
      refine va_getN (D := G.1) (ci := 4) (v := .int s0.2.2.2.2.1.2.2.1) (C := RX4) (T := TX4) (N := 4) hx hb hts hiX4 hown hY.1 hQ5 0 rfl rfl 3 (by decide) (va_Nw.use rfl (hY.2.1 (.fieldLinkNest RX6 96 RX4 "given" "I" RX6) (List.mem_of_getElem? (i := 17) rfl))) (fun _ h9 => h9) rfl dX6_groupOffers_24 ?_
      exact rd_iret hx hb hr hlk (by first | with_reducible rfl | (simp only [rrStr, strGrp, sld_eq, eq_true q14_1, eq_true q18_2, ↓reduceIte]; done)) dX6_groupOffers_27
    · by_cases q18_6 : gr = 1
      · have hQ7 := va_P.subm (u := wStr G ad (o+1) s0) (fun q h => by simp only [wRR, List.mem_cons, List.mem_append, h, true_or, or_true]) hP
        refine rdV (w0 := (wStr G ad (o+1) s0)) (As := [.int gr]) (rest := []) CF (k_X5_groupOf l G ad (o+1) s0 gr) (cwV 1 hts gX6_groupOffers_X5_groupOf rfl rfl rfl (by decide +kernel) ⟨Nat.le_of_ble_eq_true rfl, Nat.le_of_ble_eq_true rfl⟩) hQ7 hY rfl rfl rfl hl.1 rfl (lv_room (Nat.le_of_ble_eq_true rfl)) dX6_groupOffers_18 ⟨Nat.zero_le _, Nat.zero_le _⟩ ?_
        rw [show grpRef ad (o+1) gr = ad (o+1+8) from (by simp only [grpRef, eq_true q14_1, q18_2, eq_true q18_6, ↓reduceIte])]
        have hQ8 := va_P.subm (u := wGrp G ad (o+1+8) s0.2.2.2.2.2.1) (fun q h => by simp only [wStr, wRR, List.mem_cons, List.mem_append, h, true_or, or_true]) hP
        refine va_getN (D := G.1) (ci := 2) (v := .ref (ad (o+1+8+1))) (C := RX2) (T := TX2) (N := 2) hx hb hts hiX2 hown hY.1 hQ8 0 rfl rfl 0 (by decide) (va_Nw.use rfl (hY.2.1 (.fieldLinkNest RX6 95 RX2 "reservoir" "LReservoirReed$Reservoir;" RX6) (List.mem_of_getElem? (i := 16) rfl))) (fun _ h9 => h9) rfl dX6_groupOffers_21 ?_
        have hQ9 := va_P.subm (u := wRes G ad (o+1+8+1) s0.2.2.2.2.2.1.2) (fun q h => by simp only [wGrp, wStr, wRR, List.mem_cons, List.mem_append, h, true_or, or_true]) hP
        refine va_getN (D := G.1) (ci := 4) (v := .int s0.2.2.2.2.2.1.2.2.1) (C := RX4) (T := TX4) (N := 4) hx hb hts hiX4 hown hY.1 hQ9 0 rfl rfl 3 (by decide) (va_Nw.use rfl (hY.2.1 (.fieldLinkNest RX6 96 RX4 "given" "I" RX6) (List.mem_of_getElem? (i := 17) rfl))) (fun _ h9 => h9) rfl dX6_groupOffers_24 ?_
        exact rd_iret hx hb hr hlk (by first | with_reducible rfl | (simp only [rrStr, strGrp, sld_eq, eq_true q14_1, q18_2, eq_true q18_6, ↓reduceIte]; done)) dX6_groupOffers_27
      · by_cases q18_10 : gr = 2
        · have hQ11 := va_P.subm (u := wStr G ad (o+1) s0) (fun q h => by simp only [wRR, List.mem_cons, List.mem_append, h, true_or, or_true]) hP
          refine rdV (w0 := (wStr G ad (o+1) s0)) (As := [.int gr]) (rest := []) CF (k_X5_groupOf l G ad (o+1) s0 gr) (cwV 1 hts gX6_groupOffers_X5_groupOf rfl rfl rfl (by decide +kernel) ⟨Nat.le_of_ble_eq_true rfl, Nat.le_of_ble_eq_true rfl⟩) hQ11 hY rfl rfl rfl hl.1 rfl (lv_room (Nat.le_of_ble_eq_true rfl)) dX6_groupOffers_18 ⟨Nat.zero_le _, Nat.zero_le _⟩ ?_
          rw [show grpRef ad (o+1) gr = ad (o+1+12) from (by simp only [grpRef, eq_true q14_1, q18_2, q18_6, eq_true q18_10, ↓reduceIte])]
          have hQ12 := va_P.subm (u := wGrp G ad (o+1+12) s0.2.2.2.2.2.2.1) (fun q h => by simp only [wStr, wRR, List.mem_cons, List.mem_append, h, true_or, or_true]) hP
          refine va_getN (D := G.1) (ci := 2) (v := .ref (ad (o+1+12+1))) (C := RX2) (T := TX2) (N := 2) hx hb hts hiX2 hown hY.1 hQ12 0 rfl rfl 0 (by decide) (va_Nw.use rfl (hY.2.1 (.fieldLinkNest RX6 95 RX2 "reservoir" "LReservoirReed$Reservoir;" RX6) (List.mem_of_getElem? (i := 16) rfl))) (fun _ h9 => h9) rfl dX6_groupOffers_21 ?_
          have hQ13 := va_P.subm (u := wRes G ad (o+1+12+1) s0.2.2.2.2.2.2.1.2) (fun q h => by simp only [wGrp, wStr, wRR, List.mem_cons, List.mem_append, h, true_or, or_true]) hP
          refine va_getN (D := G.1) (ci := 4) (v := .int s0.2.2.2.2.2.2.1.2.2.1) (C := RX4) (T := TX4) (N := 4) hx hb hts hiX4 hown hY.1 hQ13 0 rfl rfl 3 (by decide) (va_Nw.use rfl (hY.2.1 (.fieldLinkNest RX6 96 RX4 "given" "I" RX6) (List.mem_of_getElem? (i := 17) rfl))) (fun _ h9 => h9) rfl dX6_groupOffers_24 ?_
          exact rd_iret hx hb hr hlk (by first | with_reducible rfl | (simp only [rrStr, strGrp, sld_eq, eq_true q14_1, q18_2, q18_6, eq_true q18_10, ↓reduceIte]; done)) dX6_groupOffers_27
        · have hQ14 := va_P.subm (u := wStr G ad (o+1) s0) (fun q h => by simp only [wRR, List.mem_cons, List.mem_append, h, true_or, or_true]) hP
          refine rdV (w0 := (wStr G ad (o+1) s0)) (As := [.int gr]) (rest := []) CF (k_X5_groupOf l G ad (o+1) s0 gr) (cwV 1 hts gX6_groupOffers_X5_groupOf rfl rfl rfl (by decide +kernel) ⟨Nat.le_of_ble_eq_true rfl, Nat.le_of_ble_eq_true rfl⟩) hQ14 hY rfl rfl rfl hl.1 rfl (lv_room (Nat.le_of_ble_eq_true rfl)) dX6_groupOffers_18 ⟨Nat.zero_le _, Nat.zero_le _⟩ ?_
          rw [show grpRef ad (o+1) gr = ad (o+1+16) from (by simp only [grpRef, eq_true q14_1, q18_2, q18_6, q18_10, ↓reduceIte])]
          have hQ15 := va_P.subm (u := wGrp G ad (o+1+16) s0.2.2.2.2.2.2.2.1) (fun q h => by simp only [wStr, wRR, List.mem_cons, List.mem_append, h, true_or, or_true]) hP
          refine va_getN (D := G.1) (ci := 2) (v := .ref (ad (o+1+16+1))) (C := RX2) (T := TX2) (N := 2) hx hb hts hiX2 hown hY.1 hQ15 0 rfl rfl 0 (by decide) (va_Nw.use rfl (hY.2.1 (.fieldLinkNest RX6 95 RX2 "reservoir" "LReservoirReed$Reservoir;" RX6) (List.mem_of_getElem? (i := 16) rfl))) (fun _ h9 => h9) rfl dX6_groupOffers_21 ?_
          have hQ16 := va_P.subm (u := wRes G ad (o+1+16+1) s0.2.2.2.2.2.2.2.1.2) (fun q h => by simp only [wGrp, wStr, wRR, List.mem_cons, List.mem_append, h, true_or, or_true]) hP
          refine va_getN (D := G.1) (ci := 4) (v := .int s0.2.2.2.2.2.2.2.1.2.2.1) (C := RX4) (T := TX4) (N := 4) hx hb hts hiX4 hown hY.1 hQ16 0 rfl rfl 3 (by decide) (va_Nw.use rfl (hY.2.1 (.fieldLinkNest RX6 96 RX4 "given" "I" RX6) (List.mem_of_getElem? (i := 17) rfl))) (fun _ h9 => h9) rfl dX6_groupOffers_24 ?_
          exact rd_iret hx hb hr hlk (by first | with_reducible rfl | (simp only [rrStr, strGrp, sld_eq, eq_true q14_1, q18_2, q18_6, q18_10, ↓reduceIte]; done)) dX6_groupOffers_27
  · refine rdV (w0 := (wRR G ad o (k, s0, s1, mp, md))) (As := [.int st]) (rest := []) CF (k1_X6_streamOf l G ad o (k, s0, s1, mp, md) st q14_1) (cwV 1 hts gX6_groupOffers_X6_streamOf rfl rfl rfl (by decide +kernel) ⟨Nat.le_of_ble_eq_true rfl, Nat.le_of_ble_eq_true rfl⟩) hP hY rfl rfl rfl hl.1 rfl (lv_room (Nat.le_of_ble_eq_true rfl)) dX6_groupOffers_14 ⟨Nat.zero_le _, Nat.zero_le _⟩ ?_
    refine lv_iload_n hx hb dX6_groupOffers_17 rfl (lv_at hl 2 rfl) ?_
    by_cases q18_17 : gr = 0
    · have hQ18 := va_P.subm (u := wStr G ad (o+32) s1) (fun q h => by simp only [wRR, List.mem_cons, List.mem_append, h, true_or, or_true]) hP
      refine rdV (w0 := (wStr G ad (o+32) s1)) (As := [.int gr]) (rest := []) CF (k_X5_groupOf l G ad (o+32) s1 gr) (cwV 1 hts gX6_groupOffers_X5_groupOf rfl rfl rfl (by decide +kernel) ⟨Nat.le_of_ble_eq_true rfl, Nat.le_of_ble_eq_true rfl⟩) hQ18 hY rfl rfl rfl hl.1 rfl (lv_room (Nat.le_of_ble_eq_true rfl)) dX6_groupOffers_18 ⟨Nat.zero_le _, Nat.zero_le _⟩ ?_
      rw [show grpRef ad (o+32) gr = ad (o+32+4) from (by simp only [grpRef, q14_1, eq_true q18_17, ↓reduceIte])]
      have hQ19 := va_P.subm (u := wGrp G ad (o+32+4) s1.2.2.2.2.1) (fun q h => by simp only [wStr, wRR, List.mem_cons, List.mem_append, h, true_or, or_true]) hP
      refine va_getN (D := G.1) (ci := 2) (v := .ref (ad (o+32+4+1))) (C := RX2) (T := TX2) (N := 2) hx hb hts hiX2 hown hY.1 hQ19 0 rfl rfl 0 (by decide) (va_Nw.use rfl (hY.2.1 (.fieldLinkNest RX6 95 RX2 "reservoir" "LReservoirReed$Reservoir;" RX6) (List.mem_of_getElem? (i := 16) rfl))) (fun _ h9 => h9) rfl dX6_groupOffers_21 ?_
      have hQ20 := va_P.subm (u := wRes G ad (o+32+4+1) s1.2.2.2.2.1.2) (fun q h => by simp only [wGrp, wStr, wRR, List.mem_cons, List.mem_append, h, true_or, or_true]) hP
      refine va_getN (D := G.1) (ci := 4) (v := .int s1.2.2.2.2.1.2.2.1) (C := RX4) (T := TX4) (N := 4) hx hb hts hiX4 hown hY.1 hQ20 0 rfl rfl 3 (by decide) (va_Nw.use rfl (hY.2.1 (.fieldLinkNest RX6 96 RX4 "given" "I" RX6) (List.mem_of_getElem? (i := 17) rfl))) (fun _ h9 => h9) rfl dX6_groupOffers_24 ?_
      exact rd_iret hx hb hr hlk (by first | with_reducible rfl | (simp only [rrStr, strGrp, sld_eq, q14_1, eq_true q18_17, ↓reduceIte]; done)) dX6_groupOffers_27
    · by_cases q18_21 : gr = 1
      · have hQ22 := va_P.subm (u := wStr G ad (o+32) s1) (fun q h => by simp only [wRR, List.mem_cons, List.mem_append, h, true_or, or_true]) hP
        refine rdV (w0 := (wStr G ad (o+32) s1)) (As := [.int gr]) (rest := []) CF (k_X5_groupOf l G ad (o+32) s1 gr) (cwV 1 hts gX6_groupOffers_X5_groupOf rfl rfl rfl (by decide +kernel) ⟨Nat.le_of_ble_eq_true rfl, Nat.le_of_ble_eq_true rfl⟩) hQ22 hY rfl rfl rfl hl.1 rfl (lv_room (Nat.le_of_ble_eq_true rfl)) dX6_groupOffers_18 ⟨Nat.zero_le _, Nat.zero_le _⟩ ?_
        rw [show grpRef ad (o+32) gr = ad (o+32+8) from (by simp only [grpRef, q14_1, q18_17, eq_true q18_21, ↓reduceIte])]
        have hQ23 := va_P.subm (u := wGrp G ad (o+32+8) s1.2.2.2.2.2.1) (fun q h => by simp only [wStr, wRR, List.mem_cons, List.mem_append, h, true_or, or_true]) hP
        refine va_getN (D := G.1) (ci := 2) (v := .ref (ad (o+32+8+1))) (C := RX2) (T := TX2) (N := 2) hx hb hts hiX2 hown hY.1 hQ23 0 rfl rfl 0 (by decide) (va_Nw.use rfl (hY.2.1 (.fieldLinkNest RX6 95 RX2 "reservoir" "LReservoirReed$Reservoir;" RX6) (List.mem_of_getElem? (i := 16) rfl))) (fun _ h9 => h9) rfl dX6_groupOffers_21 ?_
        have hQ24 := va_P.subm (u := wRes G ad (o+32+8+1) s1.2.2.2.2.2.1.2) (fun q h => by simp only [wGrp, wStr, wRR, List.mem_cons, List.mem_append, h, true_or, or_true]) hP
        refine va_getN (D := G.1) (ci := 4) (v := .int s1.2.2.2.2.2.1.2.2.1) (C := RX4) (T := TX4) (N := 4) hx hb hts hiX4 hown hY.1 hQ24 0 rfl rfl 3 (by decide) (va_Nw.use rfl (hY.2.1 (.fieldLinkNest RX6 96 RX4 "given" "I" RX6) (List.mem_of_getElem? (i := 17) rfl))) (fun _ h9 => h9) rfl dX6_groupOffers_24 ?_
        exact rd_iret hx hb hr hlk (by first | with_reducible rfl | (simp only [rrStr, strGrp, sld_eq, q14_1, q18_17, eq_true q18_21, ↓reduceIte]; done)) dX6_groupOffers_27
      · by_cases q18_25 : gr = 2
        · have hQ26 := va_P.subm (u := wStr G ad (o+32) s1) (fun q h => by simp only [wRR, List.mem_cons, List.mem_append, h, true_or, or_true]) hP
          refine rdV (w0 := (wStr G ad (o+32) s1)) (As := [.int gr]) (rest := []) CF (k_X5_groupOf l G ad (o+32) s1 gr) (cwV 1 hts gX6_groupOffers_X5_groupOf rfl rfl rfl (by decide +kernel) ⟨Nat.le_of_ble_eq_true rfl, Nat.le_of_ble_eq_true rfl⟩) hQ26 hY rfl rfl rfl hl.1 rfl (lv_room (Nat.le_of_ble_eq_true rfl)) dX6_groupOffers_18 ⟨Nat.zero_le _, Nat.zero_le _⟩ ?_
          rw [show grpRef ad (o+32) gr = ad (o+32+12) from (by simp only [grpRef, q14_1, q18_17, q18_21, eq_true q18_25, ↓reduceIte])]
          have hQ27 := va_P.subm (u := wGrp G ad (o+32+12) s1.2.2.2.2.2.2.1) (fun q h => by simp only [wStr, wRR, List.mem_cons, List.mem_append, h, true_or, or_true]) hP
          refine va_getN (D := G.1) (ci := 2) (v := .ref (ad (o+32+12+1))) (C := RX2) (T := TX2) (N := 2) hx hb hts hiX2 hown hY.1 hQ27 0 rfl rfl 0 (by decide) (va_Nw.use rfl (hY.2.1 (.fieldLinkNest RX6 95 RX2 "reservoir" "LReservoirReed$Reservoir;" RX6) (List.mem_of_getElem? (i := 16) rfl))) (fun _ h9 => h9) rfl dX6_groupOffers_21 ?_
          have hQ28 := va_P.subm (u := wRes G ad (o+32+12+1) s1.2.2.2.2.2.2.1.2) (fun q h => by simp only [wGrp, wStr, wRR, List.mem_cons, List.mem_append, h, true_or, or_true]) hP
          refine va_getN (D := G.1) (ci := 4) (v := .int s1.2.2.2.2.2.2.1.2.2.1) (C := RX4) (T := TX4) (N := 4) hx hb hts hiX4 hown hY.1 hQ28 0 rfl rfl 3 (by decide) (va_Nw.use rfl (hY.2.1 (.fieldLinkNest RX6 96 RX4 "given" "I" RX6) (List.mem_of_getElem? (i := 17) rfl))) (fun _ h9 => h9) rfl dX6_groupOffers_24 ?_
          exact rd_iret hx hb hr hlk (by first | with_reducible rfl | (simp only [rrStr, strGrp, sld_eq, q14_1, q18_17, q18_21, eq_true q18_25, ↓reduceIte]; done)) dX6_groupOffers_27
        · have hQ29 := va_P.subm (u := wStr G ad (o+32) s1) (fun q h => by simp only [wRR, List.mem_cons, List.mem_append, h, true_or, or_true]) hP
          refine rdV (w0 := (wStr G ad (o+32) s1)) (As := [.int gr]) (rest := []) CF (k_X5_groupOf l G ad (o+32) s1 gr) (cwV 1 hts gX6_groupOffers_X5_groupOf rfl rfl rfl (by decide +kernel) ⟨Nat.le_of_ble_eq_true rfl, Nat.le_of_ble_eq_true rfl⟩) hQ29 hY rfl rfl rfl hl.1 rfl (lv_room (Nat.le_of_ble_eq_true rfl)) dX6_groupOffers_18 ⟨Nat.zero_le _, Nat.zero_le _⟩ ?_
          rw [show grpRef ad (o+32) gr = ad (o+32+16) from (by simp only [grpRef, q14_1, q18_17, q18_21, q18_25, ↓reduceIte])]
          have hQ30 := va_P.subm (u := wGrp G ad (o+32+16) s1.2.2.2.2.2.2.2.1) (fun q h => by simp only [wStr, wRR, List.mem_cons, List.mem_append, h, true_or, or_true]) hP
          refine va_getN (D := G.1) (ci := 2) (v := .ref (ad (o+32+16+1))) (C := RX2) (T := TX2) (N := 2) hx hb hts hiX2 hown hY.1 hQ30 0 rfl rfl 0 (by decide) (va_Nw.use rfl (hY.2.1 (.fieldLinkNest RX6 95 RX2 "reservoir" "LReservoirReed$Reservoir;" RX6) (List.mem_of_getElem? (i := 16) rfl))) (fun _ h9 => h9) rfl dX6_groupOffers_21 ?_
          have hQ31 := va_P.subm (u := wRes G ad (o+32+16+1) s1.2.2.2.2.2.2.2.1.2) (fun q h => by simp only [wGrp, wStr, wRR, List.mem_cons, List.mem_append, h, true_or, or_true]) hP
          refine va_getN (D := G.1) (ci := 4) (v := .int s1.2.2.2.2.2.2.2.1.2.2.1) (C := RX4) (T := TX4) (N := 4) hx hb hts hiX4 hown hY.1 hQ31 0 rfl rfl 3 (by decide) (va_Nw.use rfl (hY.2.1 (.fieldLinkNest RX6 96 RX4 "given" "I" RX6) (List.mem_of_getElem? (i := 17) rfl))) (fun _ h9 => h9) rfl dX6_groupOffers_24 ?_
          exact rd_iret hx hb hr hlk (by first | with_reducible rfl | (simp only [rrStr, strGrp, sld_eq, q14_1, q18_17, q18_21, q18_25, ↓reduceIte]; done)) dX6_groupOffers_27

set_option maxHeartbeats 4000000 in
set_option maxRecDepth 100000 in
theorem kn_X6_groupOffers (l : Launch) (hl0 : l.stackTraces = false) (G : GT) (ad : Nat → Nat) (o : Nat) (sg : RRT) (st gr : Int32) (hk : ¬ (okA st 0 1 ∧ okA gr 0 3)) : No l yX6_groupOffers wsX6_groupOffers { frames := 7, cells := 1, slots := 6, locals := 122 } G (wRR G ad o sg) (wRR G ad o sg) [.ref (ad o), .int st, .int gr] "java/lang/IllegalArgumentException" := by
  intro sz
  obtain ⟨k, s0, s1, mp, md⟩ := sg
  refine vx_ofW (cc := cX6_groupOffers) (maxL := 3) (ret := (some .int)) (by decide) rfl ?_
  intro p e s m args below meth c s₁ B hml ht hv
  obtain ⟨rfl, hsz, hP, hY, hD0, hZ0⟩ := hv
  subst hsz
  have hD := hD0.self (sz := s.heap.size)
  generalize hAe : va_A (wRR G ad o (k, s0, s1, mp, md)) s.heap.size = A at hD hZ0 ⊢
  have hZ : Zs A s s.heap := hZ0
  have hA : ∀ q : Nat, s.heap.size ≤ q → A q := fun q h => by rw [← hAe]; exact Or.inr h
  have hS : va_S A s.heap s.heap [] := va_S.rf
  have hx := B.exec
  have hb := B.bytes
  have hr := B.returns
  have hts := atoms_spec (ws := wsX6_groupOffers) B.pre
  have hown : s.vm.findClass RX6 = some m.cls := findClass_of_methodNamed B.named
  have hlk := B.notSynchronized
  have CF : CallFix p m c cX6_groupOffers 3 s _ wsX6_groupOffers RX6 := ⟨hx, hb, hml, hown, hts⟩
  have hl := lv_entry ([.ref (ad o), .int st, .int gr]) (n := 3) (Nat.le_of_ble_eq_true rfl)
  rw [lg_entry_eq]
  generalize (lg_sl ([.ref (ad o), .int st, .int gr]) ++ List.replicate (3 - (lg_sl ([.ref (ad o), .int st, .int gr])).length) Slot.unset).toArray = ls at hl ⊢
  have hl : lv_has ls 3 [(0, .ref (ad o)), (1, .int st), (2, .int gr)] := hl
  refine lv_iload_n hx hb dX6_groupOffers_0 rfl (lv_at hl 1 rfl) ?_
  refine lv_iconst (v := 0) hx hb dX6_groupOffers_1 (by decide) ?_
  refine lv_iconst (v := 1) hx hb dX6_groupOffers_2 (by decide) ?_
  by_cases q3_1 : okA st 0 1
  · refine rvS (w0 := []) (As := [.int st, .int 0, .int 1]) (rest := []) CF (k_X6_checkArgument l G st 0 1 q3_1) (va_cwS 3 hts gX6_groupOffers_X6_checkArgument rfl rfl rfl (by decide +kernel) ⟨Nat.le_of_ble_eq_true rfl, Nat.le_of_ble_eq_true rfl⟩) va_P_nil hY rfl hl.1 rfl (lv_room (Nat.le_of_ble_eq_true rfl)) dX6_groupOffers_3 ⟨Nat.zero_le _, Nat.zero_le _⟩ ?_
    refine lv_iload_n hx hb dX6_groupOffers_6 rfl (lv_at hl 2 rfl) ?_
    refine lv_iconst (v := 0) hx hb dX6_groupOffers_7 (by decide) ?_
    refine lv_iconst (v := 3) hx hb dX6_groupOffers_8 (by decide) ?_
    by_cases q9_2 : okA gr 0 3
    · refine rvS (w0 := []) (As := [.int gr, .int 0, .int 3]) (rest := []) CF (k_X6_checkArgument l G gr 0 3 q9_2) (va_cwS 3 hts gX6_groupOffers_X6_checkArgument rfl rfl rfl (by decide +kernel) ⟨Nat.le_of_ble_eq_true rfl, Nat.le_of_ble_eq_true rfl⟩) va_P_nil hY rfl hl.1 rfl (lv_room (Nat.le_of_ble_eq_true rfl)) dX6_groupOffers_9 ⟨Nat.zero_le _, Nat.zero_le _⟩ ?_
      exact absurd ⟨q3_1, q9_2⟩ hk
    · refine noS0 (As := [.int gr, .int 0, .int 3]) (rest := []) CF (kn_X6_checkArgument l hl0 G gr 0 3 q9_2) (va_cwS 3 hts gX6_groupOffers_X6_checkArgument rfl rfl rfl (by decide +kernel) ⟨Nat.le_of_ble_eq_true rfl, Nat.le_of_ble_eq_true rfl⟩) hP hD hS hA hY hZ rfl hl.1 rfl (lv_room (Nat.le_of_ble_eq_true rfl)) dX6_groupOffers_9 ⟨Nat.le_of_ble_eq_true rfl, Nat.le_of_ble_eq_true rfl⟩ (fun ce q9 H locs hP hD hS hce hcv hcl hgr => ?_)
      exact no_out ht hlk hce hcv hcl hgr hS hP (by first | with_reducible rfl | (simp only [rrStr, strGrp, sld_eq, q3_1, q9_2, ↓reduceIte]; done))
  · refine noS0 (As := [.int st, .int 0, .int 1]) (rest := []) CF (kn_X6_checkArgument l hl0 G st 0 1 q3_1) (va_cwS 3 hts gX6_groupOffers_X6_checkArgument rfl rfl rfl (by decide +kernel) ⟨Nat.le_of_ble_eq_true rfl, Nat.le_of_ble_eq_true rfl⟩) hP hD hS hA hY hZ rfl hl.1 rfl (lv_room (Nat.le_of_ble_eq_true rfl)) dX6_groupOffers_3 ⟨Nat.le_of_ble_eq_true rfl, Nat.le_of_ble_eq_true rfl⟩ (fun ce q9 H locs hP hD hS hce hcv hcl hgr => ?_)
    exact no_out ht hlk hce hcv hcl hgr hS hP (by first | with_reducible rfl | (simp only [rrStr, strGrp, sld_eq, q3_1, ↓reduceIte]; done))

set_option maxHeartbeats 4000000 in
set_option maxRecDepth 100000 in
theorem k_X6_groupItem (l : Launch) (G : GT) (ad : Nat → Nat) (o : Nat) (sg : RRT) (st gr sl : Int32) (h0 : okA st 0 1) (h1 : okA gr 0 3) (hs : okP sl (resFilled (strGrp (rrStr sg st) gr).2)) : Rd l yX6_groupItem wsX6_groupItem { frames := 7, cells := 0, slots := 0, locals := 122 } G (wRR G ad o sg) [.ref (ad o), .int st, .int gr, .int sl] (.int (at_ 16 (strGrp (rrStr sg st) gr).2.2.2.1 sl)) := by
  obtain ⟨k, s0, s1, mp, md⟩ := sg
  refine Met.ofW (cc := cX6_groupItem) (maxL := 5) (ret := (some .int)) (by decide) rfl ?_
  intro p e s m args below meth c s₁ B hml hv
  obtain ⟨rfl, hP, hY⟩ := hv
  have hx := B.exec
  have hb := B.bytes
  have hr := B.returns
  have hts := atoms_spec (ws := wsX6_groupItem) B.pre
  have hown : s.vm.findClass RX6 = some m.cls := findClass_of_methodNamed B.named
  have hlk := B.notSynchronized
  have CF : CallFix p m c cX6_groupItem 5 s _ wsX6_groupItem RX6 := ⟨hx, hb, hml, hown, hts⟩
  have hiX2 : ∀ w ∈ wsX20, w ∈ wsX6_groupItem := fun w h => (List.mem_cons_of_mem _ (List.mem_append_left _ (List.mem_append_left _ (List.mem_append_left _ (List.mem_append_left _ (List.mem_append_left _ (List.mem_append_right _ h)))))))
  have hiX4 : ∀ w ∈ wsX40, w ∈ wsX6_groupItem := fun w h => (List.mem_cons_of_mem _ (List.mem_append_left _ (List.mem_append_left _ (List.mem_append_left _ (List.mem_append_left _ (List.mem_append_right _ h))))))
  have hl := lv_entry ([.ref (ad o), .int st, .int gr, .int sl]) (n := 5) (Nat.le_of_ble_eq_true rfl)
  rw [lg_entry_eq]
  generalize (lg_sl ([.ref (ad o), .int st, .int gr, .int sl]) ++ List.replicate (5 - (lg_sl ([.ref (ad o), .int st, .int gr, .int sl])).length) Slot.unset).toArray = ls at hl ⊢
  have hl : lv_has ls 5 [(0, .ref (ad o)), (1, .int st), (2, .int gr), (3, .int sl)] := hl
  refine lv_iload_n hx hb dX6_groupItem_0 rfl (lv_at hl 1 rfl) ?_
  refine lv_iconst (v := 0) hx hb dX6_groupItem_1 (by decide) ?_
  refine lv_iconst (v := 1) hx hb dX6_groupItem_2 (by decide) ?_
  refine rvS (w0 := []) (As := [.int st, .int 0, .int 1]) (rest := []) CF (k_X6_checkArgument l G st 0 1 h0) (va_cwS 3 hts gX6_groupItem_X6_checkArgument rfl rfl rfl (by decide +kernel) ⟨Nat.le_of_ble_eq_true rfl, Nat.le_of_ble_eq_true rfl⟩) va_P_nil hY rfl hl.1 rfl (lv_room (Nat.le_of_ble_eq_true rfl)) dX6_groupItem_3 ⟨Nat.zero_le _, Nat.zero_le _⟩ ?_
  refine lv_iload_n hx hb dX6_groupItem_6 rfl (lv_at hl 2 rfl) ?_
  refine lv_iconst (v := 0) hx hb dX6_groupItem_7 (by decide) ?_
  refine lv_iconst (v := 3) hx hb dX6_groupItem_8 (by decide) ?_
  refine rvS (w0 := []) (As := [.int gr, .int 0, .int 3]) (rest := []) CF (k_X6_checkArgument l G gr 0 3 h1) (va_cwS 3 hts gX6_groupItem_X6_checkArgument rfl rfl rfl (by decide +kernel) ⟨Nat.le_of_ble_eq_true rfl, Nat.le_of_ble_eq_true rfl⟩) va_P_nil hY rfl hl.1 rfl (lv_room (Nat.le_of_ble_eq_true rfl)) dX6_groupItem_9 ⟨Nat.zero_le _, Nat.zero_le _⟩ ?_
  refine lv_aload_n hx hb dX6_groupItem_12 rfl (lv_at hl 0 rfl) ?_
  refine lv_iload_n hx hb dX6_groupItem_13 rfl (lv_at hl 1 rfl) ?_
  by_cases q14_1 : st = 0
  · refine rdV (w0 := (wRR G ad o (k, s0, s1, mp, md))) (As := [.int st]) (rest := []) CF (k0_X6_streamOf l G ad o (k, s0, s1, mp, md) st q14_1) (cwV 1 hts gX6_groupItem_X6_streamOf rfl rfl rfl (by decide +kernel) ⟨Nat.le_of_ble_eq_true rfl, Nat.le_of_ble_eq_true rfl⟩) hP hY rfl rfl rfl hl.1 rfl (lv_room (Nat.le_of_ble_eq_true rfl)) dX6_groupItem_14 ⟨Nat.zero_le _, Nat.zero_le _⟩ ?_
    refine lv_iload_n hx hb dX6_groupItem_17 rfl (lv_at hl 2 rfl) ?_
    by_cases q18_2 : gr = 0
    · have hQ3 := va_P.subm (u := wStr G ad (o+1) s0) (fun q h => by simp only [wRR, List.mem_cons, List.mem_append, h, true_or, or_true]) hP
      refine rdV (w0 := (wStr G ad (o+1) s0)) (As := [.int gr]) (rest := []) CF (k_X5_groupOf l G ad (o+1) s0 gr) (cwV 1 hts gX6_groupItem_X5_groupOf rfl rfl rfl (by decide +kernel) ⟨Nat.le_of_ble_eq_true rfl, Nat.le_of_ble_eq_true rfl⟩) hQ3 hY rfl rfl rfl hl.1 rfl (lv_room (Nat.le_of_ble_eq_true rfl)) dX6_groupItem_18 ⟨Nat.zero_le _, Nat.zero_le _⟩ ?_
      rw [show grpRef ad (o+1) gr = ad (o+1+4) from (by simp only [grpRef, eq_true q14_1, eq_true q18_2, ↓reduceIte])]
      have hQ4 := va_P.subm (u := wGrp G ad (o+1+4) s0.2.2.2.2.1) (fun q h => by simp only [wStr, wRR, List.mem_cons, List.mem_append, h, true_or, or_true]) hP
      refine va_getN (D := G.1) (ci := 2) (v := .ref (ad (o+1+4+1))) (C := RX2) (T := TX2) (N := 2) hx hb hts hiX2 hown hY.1 hQ4 0 rfl rfl 0 (by decide) (va_Nw.use rfl (hY.2.1 (.fieldLinkNest RX6 95 RX2 "reservoir" "LReservoirReed$Reservoir;" RX6) (List.mem_of_getElem? (i := 16) rfl))) (fun _ h9 => h9) rfl dX6_groupItem_21 ?_
      refine lv_astore (lv' := [(4, .ref (ad (o+1+4+1))), (0, .ref (ad o)), (1, .int st), (2, .int gr), (3, .int sl)]) hx hb dX6_groupItem_24 hl (by decide) rfl (fun ls hl => ?_)
      refine lv_iload_n hx hb dX6_groupItem_26 rfl (lv_at hl 4 rfl) ?_
      refine lv_aload hx hb dX6_groupItem_27 (lv_at hl 0 rfl) ?_
      have hQ5 := va_P.subm (u := wRes G ad (o+1+4+1) s0.2.2.2.2.1.2) (fun q h => by simp only [wGrp, wStr, wRR, List.mem_cons, List.mem_append, h, true_or, or_true]) hP
      refine rdV (w0 := (wRes G ad (o+1+4+1) s0.2.2.2.2.1.2)) (As := []) (rest := [.int sl]) CF (k_X4_filled l G ad (o+1+4+1) s0.2.2.2.2.1.2) (cwV 0 hts gX6_groupItem_X4_filled rfl rfl rfl (by decide +kernel) ⟨Nat.le_of_ble_eq_true rfl, Nat.le_of_ble_eq_true rfl⟩) hQ5 hY rfl rfl rfl hl.1 rfl (lv_room (Nat.le_of_ble_eq_true rfl)) dX6_groupItem_29 ⟨Nat.zero_le _, Nat.zero_le _⟩ ?_
      refine rvS (w0 := []) (As := [.int sl, .int (resFilled s0.2.2.2.2.1.2)]) (rest := []) CF (k_X6_checkPlace l G sl (resFilled s0.2.2.2.2.1.2) (by simpa only [rrStr, strGrp, eq_true q14_1, eq_true q18_2, ↓reduceIte] using hs)) (va_cwS 2 hts gX6_groupItem_X6_checkPlace rfl rfl rfl (by decide +kernel) ⟨Nat.le_of_ble_eq_true rfl, Nat.le_of_ble_eq_true rfl⟩) va_P_nil hY rfl hl.1 rfl (lv_room (Nat.le_of_ble_eq_true rfl)) dX6_groupItem_32 ⟨Nat.zero_le _, Nat.zero_le _⟩ ?_
      refine lv_aload hx hb dX6_groupItem_35 (lv_at hl 0 rfl) ?_
      have hQ6 := va_P.subm (u := wRes G ad (o+1+4+1) s0.2.2.2.2.1.2) (fun q h => by simp only [wGrp, wStr, wRR, List.mem_cons, List.mem_append, h, true_or, or_true]) hP
      refine va_getN (D := G.1) (ci := 4) (v := .ref (ad (o+1+4+1+1))) (C := RX4) (T := TX4) (N := 4) hx hb hts hiX4 hown hY.1 hQ6 0 rfl rfl 0 (by decide) (va_Nw.use rfl (hY.2.1 (.fieldLinkNest RX6 84 RX4 "items" "[I" RX6) (List.mem_of_getElem? (i := 14) rfl))) (fun _ h9 => h9) rfl dX6_groupItem_37 ?_
      refine lv_iload_n hx hb dX6_groupItem_40 rfl (lv_at hl 4 rfl) ?_
      have hQ7 := va_P.subm (u := wRes G ad (o+1+4+1) s0.2.2.2.2.1.2) (fun q h => by simp only [wGrp, wStr, wRR, List.mem_cons, List.mem_append, h, true_or, or_true]) hP
      refine rdS (w0 := [(ad (o+1+4+1+1), .inl (G.2.1, 16, .inl s0.2.2.2.2.1.2.2.2.1))]) (As := [.ref (ad (o+1+4+1+1)), .int sl]) (rest := []) CF (k_X6_at l G 16 (ad (o+1+4+1+1)) s0.2.2.2.2.1.2.2.2.1 sl (by decide)) (va_cwS 2 hts gX6_groupItem_X6_at rfl rfl rfl (by decide +kernel) ⟨Nat.le_of_ble_eq_true rfl, Nat.le_of_ble_eq_true rfl⟩) (hQ7.sub (ws' := [(ad (o+1+4+1+1), .inl (G.2.1, 16, .inl s0.2.2.2.2.1.2.2.2.1))]) [1] rfl) hY rfl hl.1 rfl (lv_room (Nat.le_of_ble_eq_true rfl)) dX6_groupItem_41 ⟨Nat.zero_le _, Nat.zero_le _⟩ ?_
      exact rd_iret hx hb hr hlk (by first | with_reducible rfl | (simp only [rrStr, strGrp, sld_eq, eq_true q14_1, eq_true q18_2, ↓reduceIte]; done)) dX6_groupItem_44
    · by_cases q18_8 : gr = 1
      · have hQ9 := va_P.subm (u := wStr G ad (o+1) s0) (fun q h => by simp only [wRR, List.mem_cons, List.mem_append, h, true_or, or_true]) hP
        refine rdV (w0 := (wStr G ad (o+1) s0)) (As := [.int gr]) (rest := []) CF (k_X5_groupOf l G ad (o+1) s0 gr) (cwV 1 hts gX6_groupItem_X5_groupOf rfl rfl rfl (by decide +kernel) ⟨Nat.le_of_ble_eq_true rfl, Nat.le_of_ble_eq_true rfl⟩) hQ9 hY rfl rfl rfl hl.1 rfl (lv_room (Nat.le_of_ble_eq_true rfl)) dX6_groupItem_18 ⟨Nat.zero_le _, Nat.zero_le _⟩ ?_
        rw [show grpRef ad (o+1) gr = ad (o+1+8) from (by simp only [grpRef, eq_true q14_1, q18_2, eq_true q18_8, ↓reduceIte])]
        have hQ10 := va_P.subm (u := wGrp G ad (o+1+8) s0.2.2.2.2.2.1) (fun q h => by simp only [wStr, wRR, List.mem_cons, List.mem_append, h, true_or, or_true]) hP
        refine va_getN (D := G.1) (ci := 2) (v := .ref (ad (o+1+8+1))) (C := RX2) (T := TX2) (N := 2) hx hb hts hiX2 hown hY.1 hQ10 0 rfl rfl 0 (by decide) (va_Nw.use rfl (hY.2.1 (.fieldLinkNest RX6 95 RX2 "reservoir" "LReservoirReed$Reservoir;" RX6) (List.mem_of_getElem? (i := 16) rfl))) (fun _ h9 => h9) rfl dX6_groupItem_21 ?_
        refine lv_astore (lv' := [(4, .ref (ad (o+1+8+1))), (0, .ref (ad o)), (1, .int st), (2, .int gr), (3, .int sl)]) hx hb dX6_groupItem_24 hl (by decide) rfl (fun ls hl => ?_)
        refine lv_iload_n hx hb dX6_groupItem_26 rfl (lv_at hl 4 rfl) ?_
        refine lv_aload hx hb dX6_groupItem_27 (lv_at hl 0 rfl) ?_
        have hQ11 := va_P.subm (u := wRes G ad (o+1+8+1) s0.2.2.2.2.2.1.2) (fun q h => by simp only [wGrp, wStr, wRR, List.mem_cons, List.mem_append, h, true_or, or_true]) hP
        refine rdV (w0 := (wRes G ad (o+1+8+1) s0.2.2.2.2.2.1.2)) (As := []) (rest := [.int sl]) CF (k_X4_filled l G ad (o+1+8+1) s0.2.2.2.2.2.1.2) (cwV 0 hts gX6_groupItem_X4_filled rfl rfl rfl (by decide +kernel) ⟨Nat.le_of_ble_eq_true rfl, Nat.le_of_ble_eq_true rfl⟩) hQ11 hY rfl rfl rfl hl.1 rfl (lv_room (Nat.le_of_ble_eq_true rfl)) dX6_groupItem_29 ⟨Nat.zero_le _, Nat.zero_le _⟩ ?_
        refine rvS (w0 := []) (As := [.int sl, .int (resFilled s0.2.2.2.2.2.1.2)]) (rest := []) CF (k_X6_checkPlace l G sl (resFilled s0.2.2.2.2.2.1.2) (by simpa only [rrStr, strGrp, eq_true q14_1, q18_2, eq_true q18_8, ↓reduceIte] using hs)) (va_cwS 2 hts gX6_groupItem_X6_checkPlace rfl rfl rfl (by decide +kernel) ⟨Nat.le_of_ble_eq_true rfl, Nat.le_of_ble_eq_true rfl⟩) va_P_nil hY rfl hl.1 rfl (lv_room (Nat.le_of_ble_eq_true rfl)) dX6_groupItem_32 ⟨Nat.zero_le _, Nat.zero_le _⟩ ?_
        refine lv_aload hx hb dX6_groupItem_35 (lv_at hl 0 rfl) ?_
        have hQ12 := va_P.subm (u := wRes G ad (o+1+8+1) s0.2.2.2.2.2.1.2) (fun q h => by simp only [wGrp, wStr, wRR, List.mem_cons, List.mem_append, h, true_or, or_true]) hP
        refine va_getN (D := G.1) (ci := 4) (v := .ref (ad (o+1+8+1+1))) (C := RX4) (T := TX4) (N := 4) hx hb hts hiX4 hown hY.1 hQ12 0 rfl rfl 0 (by decide) (va_Nw.use rfl (hY.2.1 (.fieldLinkNest RX6 84 RX4 "items" "[I" RX6) (List.mem_of_getElem? (i := 14) rfl))) (fun _ h9 => h9) rfl dX6_groupItem_37 ?_
        refine lv_iload_n hx hb dX6_groupItem_40 rfl (lv_at hl 4 rfl) ?_
        have hQ13 := va_P.subm (u := wRes G ad (o+1+8+1) s0.2.2.2.2.2.1.2) (fun q h => by simp only [wGrp, wStr, wRR, List.mem_cons, List.mem_append, h, true_or, or_true]) hP
        refine rdS (w0 := [(ad (o+1+8+1+1), .inl (G.2.1, 16, .inl s0.2.2.2.2.2.1.2.2.2.1))]) (As := [.ref (ad (o+1+8+1+1)), .int sl]) (rest := []) CF (k_X6_at l G 16 (ad (o+1+8+1+1)) s0.2.2.2.2.2.1.2.2.2.1 sl (by decide)) (va_cwS 2 hts gX6_groupItem_X6_at rfl rfl rfl (by decide +kernel) ⟨Nat.le_of_ble_eq_true rfl, Nat.le_of_ble_eq_true rfl⟩) (hQ13.sub (ws' := [(ad (o+1+8+1+1), .inl (G.2.1, 16, .inl s0.2.2.2.2.2.1.2.2.2.1))]) [1] rfl) hY rfl hl.1 rfl (lv_room (Nat.le_of_ble_eq_true rfl)) dX6_groupItem_41 ⟨Nat.zero_le _, Nat.zero_le _⟩ ?_
        exact rd_iret hx hb hr hlk (by first | with_reducible rfl | (simp only [rrStr, strGrp, sld_eq, eq_true q14_1, q18_2, eq_true q18_8, ↓reduceIte]; done)) dX6_groupItem_44
      · by_cases q18_14 : gr = 2
        · have hQ15 := va_P.subm (u := wStr G ad (o+1) s0) (fun q h => by simp only [wRR, List.mem_cons, List.mem_append, h, true_or, or_true]) hP
          refine rdV (w0 := (wStr G ad (o+1) s0)) (As := [.int gr]) (rest := []) CF (k_X5_groupOf l G ad (o+1) s0 gr) (cwV 1 hts gX6_groupItem_X5_groupOf rfl rfl rfl (by decide +kernel) ⟨Nat.le_of_ble_eq_true rfl, Nat.le_of_ble_eq_true rfl⟩) hQ15 hY rfl rfl rfl hl.1 rfl (lv_room (Nat.le_of_ble_eq_true rfl)) dX6_groupItem_18 ⟨Nat.zero_le _, Nat.zero_le _⟩ ?_
          rw [show grpRef ad (o+1) gr = ad (o+1+12) from (by simp only [grpRef, eq_true q14_1, q18_2, q18_8, eq_true q18_14, ↓reduceIte])]
          have hQ16 := va_P.subm (u := wGrp G ad (o+1+12) s0.2.2.2.2.2.2.1) (fun q h => by simp only [wStr, wRR, List.mem_cons, List.mem_append, h, true_or, or_true]) hP
          refine va_getN (D := G.1) (ci := 2) (v := .ref (ad (o+1+12+1))) (C := RX2) (T := TX2) (N := 2) hx hb hts hiX2 hown hY.1 hQ16 0 rfl rfl 0 (by decide) (va_Nw.use rfl (hY.2.1 (.fieldLinkNest RX6 95 RX2 "reservoir" "LReservoirReed$Reservoir;" RX6) (List.mem_of_getElem? (i := 16) rfl))) (fun _ h9 => h9) rfl dX6_groupItem_21 ?_
          refine lv_astore (lv' := [(4, .ref (ad (o+1+12+1))), (0, .ref (ad o)), (1, .int st), (2, .int gr), (3, .int sl)]) hx hb dX6_groupItem_24 hl (by decide) rfl (fun ls hl => ?_)
          refine lv_iload_n hx hb dX6_groupItem_26 rfl (lv_at hl 4 rfl) ?_
          refine lv_aload hx hb dX6_groupItem_27 (lv_at hl 0 rfl) ?_
          have hQ17 := va_P.subm (u := wRes G ad (o+1+12+1) s0.2.2.2.2.2.2.1.2) (fun q h => by simp only [wGrp, wStr, wRR, List.mem_cons, List.mem_append, h, true_or, or_true]) hP
          refine rdV (w0 := (wRes G ad (o+1+12+1) s0.2.2.2.2.2.2.1.2)) (As := []) (rest := [.int sl]) CF (k_X4_filled l G ad (o+1+12+1) s0.2.2.2.2.2.2.1.2) (cwV 0 hts gX6_groupItem_X4_filled rfl rfl rfl (by decide +kernel) ⟨Nat.le_of_ble_eq_true rfl, Nat.le_of_ble_eq_true rfl⟩) hQ17 hY rfl rfl rfl hl.1 rfl (lv_room (Nat.le_of_ble_eq_true rfl)) dX6_groupItem_29 ⟨Nat.zero_le _, Nat.zero_le _⟩ ?_
          refine rvS (w0 := []) (As := [.int sl, .int (resFilled s0.2.2.2.2.2.2.1.2)]) (rest := []) CF (k_X6_checkPlace l G sl (resFilled s0.2.2.2.2.2.2.1.2) (by simpa only [rrStr, strGrp, eq_true q14_1, q18_2, q18_8, eq_true q18_14, ↓reduceIte] using hs)) (va_cwS 2 hts gX6_groupItem_X6_checkPlace rfl rfl rfl (by decide +kernel) ⟨Nat.le_of_ble_eq_true rfl, Nat.le_of_ble_eq_true rfl⟩) va_P_nil hY rfl hl.1 rfl (lv_room (Nat.le_of_ble_eq_true rfl)) dX6_groupItem_32 ⟨Nat.zero_le _, Nat.zero_le _⟩ ?_
          refine lv_aload hx hb dX6_groupItem_35 (lv_at hl 0 rfl) ?_
          have hQ18 := va_P.subm (u := wRes G ad (o+1+12+1) s0.2.2.2.2.2.2.1.2) (fun q h => by simp only [wGrp, wStr, wRR, List.mem_cons, List.mem_append, h, true_or, or_true]) hP
          refine va_getN (D := G.1) (ci := 4) (v := .ref (ad (o+1+12+1+1))) (C := RX4) (T := TX4) (N := 4) hx hb hts hiX4 hown hY.1 hQ18 0 rfl rfl 0 (by decide) (va_Nw.use rfl (hY.2.1 (.fieldLinkNest RX6 84 RX4 "items" "[I" RX6) (List.mem_of_getElem? (i := 14) rfl))) (fun _ h9 => h9) rfl dX6_groupItem_37 ?_
          refine lv_iload_n hx hb dX6_groupItem_40 rfl (lv_at hl 4 rfl) ?_
          have hQ19 := va_P.subm (u := wRes G ad (o+1+12+1) s0.2.2.2.2.2.2.1.2) (fun q h => by simp only [wGrp, wStr, wRR, List.mem_cons, List.mem_append, h, true_or, or_true]) hP
          refine rdS (w0 := [(ad (o+1+12+1+1), .inl (G.2.1, 16, .inl s0.2.2.2.2.2.2.1.2.2.2.1))]) (As := [.ref (ad (o+1+12+1+1)), .int sl]) (rest := []) CF (k_X6_at l G 16 (ad (o+1+12+1+1)) s0.2.2.2.2.2.2.1.2.2.2.1 sl (by decide)) (va_cwS 2 hts gX6_groupItem_X6_at rfl rfl rfl (by decide +kernel) ⟨Nat.le_of_ble_eq_true rfl, Nat.le_of_ble_eq_true rfl⟩) (hQ19.sub (ws' := [(ad (o+1+12+1+1), .inl (G.2.1, 16, .inl s0.2.2.2.2.2.2.1.2.2.2.1))]) [1] rfl) hY rfl hl.1 rfl (lv_room (Nat.le_of_ble_eq_true rfl)) dX6_groupItem_41 ⟨Nat.zero_le _, Nat.zero_le _⟩ ?_
          exact rd_iret hx hb hr hlk (by first | with_reducible rfl | (simp only [rrStr, strGrp, sld_eq, eq_true q14_1, q18_2, q18_8, eq_true q18_14, ↓reduceIte]; done)) dX6_groupItem_44
        · have hQ20 := va_P.subm (u := wStr G ad (o+1) s0) (fun q h => by simp only [wRR, List.mem_cons, List.mem_append, h, true_or, or_true]) hP
          refine rdV (w0 := (wStr G ad (o+1) s0)) (As := [.int gr]) (rest := []) CF (k_X5_groupOf l G ad (o+1) s0 gr) (cwV 1 hts gX6_groupItem_X5_groupOf rfl rfl rfl (by decide +kernel) ⟨Nat.le_of_ble_eq_true rfl, Nat.le_of_ble_eq_true rfl⟩) hQ20 hY rfl rfl rfl hl.1 rfl (lv_room (Nat.le_of_ble_eq_true rfl)) dX6_groupItem_18 ⟨Nat.zero_le _, Nat.zero_le _⟩ ?_
          rw [show grpRef ad (o+1) gr = ad (o+1+16) from (by simp only [grpRef, eq_true q14_1, q18_2, q18_8, q18_14, ↓reduceIte])]
          have hQ21 := va_P.subm (u := wGrp G ad (o+1+16) s0.2.2.2.2.2.2.2.1) (fun q h => by simp only [wStr, wRR, List.mem_cons, List.mem_append, h, true_or, or_true]) hP
          refine va_getN (D := G.1) (ci := 2) (v := .ref (ad (o+1+16+1))) (C := RX2) (T := TX2) (N := 2) hx hb hts hiX2 hown hY.1 hQ21 0 rfl rfl 0 (by decide) (va_Nw.use rfl (hY.2.1 (.fieldLinkNest RX6 95 RX2 "reservoir" "LReservoirReed$Reservoir;" RX6) (List.mem_of_getElem? (i := 16) rfl))) (fun _ h9 => h9) rfl dX6_groupItem_21 ?_
          refine lv_astore (lv' := [(4, .ref (ad (o+1+16+1))), (0, .ref (ad o)), (1, .int st), (2, .int gr), (3, .int sl)]) hx hb dX6_groupItem_24 hl (by decide) rfl (fun ls hl => ?_)
          refine lv_iload_n hx hb dX6_groupItem_26 rfl (lv_at hl 4 rfl) ?_
          refine lv_aload hx hb dX6_groupItem_27 (lv_at hl 0 rfl) ?_
          have hQ22 := va_P.subm (u := wRes G ad (o+1+16+1) s0.2.2.2.2.2.2.2.1.2) (fun q h => by simp only [wGrp, wStr, wRR, List.mem_cons, List.mem_append, h, true_or, or_true]) hP
          refine rdV (w0 := (wRes G ad (o+1+16+1) s0.2.2.2.2.2.2.2.1.2)) (As := []) (rest := [.int sl]) CF (k_X4_filled l G ad (o+1+16+1) s0.2.2.2.2.2.2.2.1.2) (cwV 0 hts gX6_groupItem_X4_filled rfl rfl rfl (by decide +kernel) ⟨Nat.le_of_ble_eq_true rfl, Nat.le_of_ble_eq_true rfl⟩) hQ22 hY rfl rfl rfl hl.1 rfl (lv_room (Nat.le_of_ble_eq_true rfl)) dX6_groupItem_29 ⟨Nat.zero_le _, Nat.zero_le _⟩ ?_
          refine rvS (w0 := []) (As := [.int sl, .int (resFilled s0.2.2.2.2.2.2.2.1.2)]) (rest := []) CF (k_X6_checkPlace l G sl (resFilled s0.2.2.2.2.2.2.2.1.2) (by simpa only [rrStr, strGrp, eq_true q14_1, q18_2, q18_8, q18_14, ↓reduceIte] using hs)) (va_cwS 2 hts gX6_groupItem_X6_checkPlace rfl rfl rfl (by decide +kernel) ⟨Nat.le_of_ble_eq_true rfl, Nat.le_of_ble_eq_true rfl⟩) va_P_nil hY rfl hl.1 rfl (lv_room (Nat.le_of_ble_eq_true rfl)) dX6_groupItem_32 ⟨Nat.zero_le _, Nat.zero_le _⟩ ?_
          refine lv_aload hx hb dX6_groupItem_35 (lv_at hl 0 rfl) ?_
          have hQ23 := va_P.subm (u := wRes G ad (o+1+16+1) s0.2.2.2.2.2.2.2.1.2) (fun q h => by simp only [wGrp, wStr, wRR, List.mem_cons, List.mem_append, h, true_or, or_true]) hP
          refine va_getN (D := G.1) (ci := 4) (v := .ref (ad (o+1+16+1+1))) (C := RX4) (T := TX4) (N := 4) hx hb hts hiX4 hown hY.1 hQ23 0 rfl rfl 0 (by decide) (va_Nw.use rfl (hY.2.1 (.fieldLinkNest RX6 84 RX4 "items" "[I" RX6) (List.mem_of_getElem? (i := 14) rfl))) (fun _ h9 => h9) rfl dX6_groupItem_37 ?_
          refine lv_iload_n hx hb dX6_groupItem_40 rfl (lv_at hl 4 rfl) ?_
          have hQ24 := va_P.subm (u := wRes G ad (o+1+16+1) s0.2.2.2.2.2.2.2.1.2) (fun q h => by simp only [wGrp, wStr, wRR, List.mem_cons, List.mem_append, h, true_or, or_true]) hP
          refine rdS (w0 := [(ad (o+1+16+1+1), .inl (G.2.1, 16, .inl s0.2.2.2.2.2.2.2.1.2.2.2.1))]) (As := [.ref (ad (o+1+16+1+1)), .int sl]) (rest := []) CF (k_X6_at l G 16 (ad (o+1+16+1+1)) s0.2.2.2.2.2.2.2.1.2.2.2.1 sl (by decide)) (va_cwS 2 hts gX6_groupItem_X6_at rfl rfl rfl (by decide +kernel) ⟨Nat.le_of_ble_eq_true rfl, Nat.le_of_ble_eq_true rfl⟩) (hQ24.sub (ws' := [(ad (o+1+16+1+1), .inl (G.2.1, 16, .inl s0.2.2.2.2.2.2.2.1.2.2.2.1))]) [1] rfl) hY rfl hl.1 rfl (lv_room (Nat.le_of_ble_eq_true rfl)) dX6_groupItem_41 ⟨Nat.zero_le _, Nat.zero_le _⟩ ?_
          exact rd_iret hx hb hr hlk (by first | with_reducible rfl | (simp only [rrStr, strGrp, sld_eq, eq_true q14_1, q18_2, q18_8, q18_14, ↓reduceIte]; done)) dX6_groupItem_44
  · refine rdV (w0 := (wRR G ad o (k, s0, s1, mp, md))) (As := [.int st]) (rest := []) CF (k1_X6_streamOf l G ad o (k, s0, s1, mp, md) st q14_1) (cwV 1 hts gX6_groupItem_X6_streamOf rfl rfl rfl (by decide +kernel) ⟨Nat.le_of_ble_eq_true rfl, Nat.le_of_ble_eq_true rfl⟩) hP hY rfl rfl rfl hl.1 rfl (lv_room (Nat.le_of_ble_eq_true rfl)) dX6_groupItem_14 ⟨Nat.zero_le _, Nat.zero_le _⟩ ?_
    refine lv_iload_n hx hb dX6_groupItem_17 rfl (lv_at hl 2 rfl) ?_
    by_cases q18_25 : gr = 0
    · have hQ26 := va_P.subm (u := wStr G ad (o+32) s1) (fun q h => by simp only [wRR, List.mem_cons, List.mem_append, h, true_or, or_true]) hP
      refine rdV (w0 := (wStr G ad (o+32) s1)) (As := [.int gr]) (rest := []) CF (k_X5_groupOf l G ad (o+32) s1 gr) (cwV 1 hts gX6_groupItem_X5_groupOf rfl rfl rfl (by decide +kernel) ⟨Nat.le_of_ble_eq_true rfl, Nat.le_of_ble_eq_true rfl⟩) hQ26 hY rfl rfl rfl hl.1 rfl (lv_room (Nat.le_of_ble_eq_true rfl)) dX6_groupItem_18 ⟨Nat.zero_le _, Nat.zero_le _⟩ ?_
      rw [show grpRef ad (o+32) gr = ad (o+32+4) from (by simp only [grpRef, q14_1, eq_true q18_25, ↓reduceIte])]
      have hQ27 := va_P.subm (u := wGrp G ad (o+32+4) s1.2.2.2.2.1) (fun q h => by simp only [wStr, wRR, List.mem_cons, List.mem_append, h, true_or, or_true]) hP
      refine va_getN (D := G.1) (ci := 2) (v := .ref (ad (o+32+4+1))) (C := RX2) (T := TX2) (N := 2) hx hb hts hiX2 hown hY.1 hQ27 0 rfl rfl 0 (by decide) (va_Nw.use rfl (hY.2.1 (.fieldLinkNest RX6 95 RX2 "reservoir" "LReservoirReed$Reservoir;" RX6) (List.mem_of_getElem? (i := 16) rfl))) (fun _ h9 => h9) rfl dX6_groupItem_21 ?_
      refine lv_astore (lv' := [(4, .ref (ad (o+32+4+1))), (0, .ref (ad o)), (1, .int st), (2, .int gr), (3, .int sl)]) hx hb dX6_groupItem_24 hl (by decide) rfl (fun ls hl => ?_)
      refine lv_iload_n hx hb dX6_groupItem_26 rfl (lv_at hl 4 rfl) ?_
      refine lv_aload hx hb dX6_groupItem_27 (lv_at hl 0 rfl) ?_
      have hQ28 := va_P.subm (u := wRes G ad (o+32+4+1) s1.2.2.2.2.1.2) (fun q h => by simp only [wGrp, wStr, wRR, List.mem_cons, List.mem_append, h, true_or, or_true]) hP
      refine rdV (w0 := (wRes G ad (o+32+4+1) s1.2.2.2.2.1.2)) (As := []) (rest := [.int sl]) CF (k_X4_filled l G ad (o+32+4+1) s1.2.2.2.2.1.2) (cwV 0 hts gX6_groupItem_X4_filled rfl rfl rfl (by decide +kernel) ⟨Nat.le_of_ble_eq_true rfl, Nat.le_of_ble_eq_true rfl⟩) hQ28 hY rfl rfl rfl hl.1 rfl (lv_room (Nat.le_of_ble_eq_true rfl)) dX6_groupItem_29 ⟨Nat.zero_le _, Nat.zero_le _⟩ ?_
      refine rvS (w0 := []) (As := [.int sl, .int (resFilled s1.2.2.2.2.1.2)]) (rest := []) CF (k_X6_checkPlace l G sl (resFilled s1.2.2.2.2.1.2) (by simpa only [rrStr, strGrp, q14_1, eq_true q18_25, ↓reduceIte] using hs)) (va_cwS 2 hts gX6_groupItem_X6_checkPlace rfl rfl rfl (by decide +kernel) ⟨Nat.le_of_ble_eq_true rfl, Nat.le_of_ble_eq_true rfl⟩) va_P_nil hY rfl hl.1 rfl (lv_room (Nat.le_of_ble_eq_true rfl)) dX6_groupItem_32 ⟨Nat.zero_le _, Nat.zero_le _⟩ ?_
      refine lv_aload hx hb dX6_groupItem_35 (lv_at hl 0 rfl) ?_
      have hQ29 := va_P.subm (u := wRes G ad (o+32+4+1) s1.2.2.2.2.1.2) (fun q h => by simp only [wGrp, wStr, wRR, List.mem_cons, List.mem_append, h, true_or, or_true]) hP
      refine va_getN (D := G.1) (ci := 4) (v := .ref (ad (o+32+4+1+1))) (C := RX4) (T := TX4) (N := 4) hx hb hts hiX4 hown hY.1 hQ29 0 rfl rfl 0 (by decide) (va_Nw.use rfl (hY.2.1 (.fieldLinkNest RX6 84 RX4 "items" "[I" RX6) (List.mem_of_getElem? (i := 14) rfl))) (fun _ h9 => h9) rfl dX6_groupItem_37 ?_
      refine lv_iload_n hx hb dX6_groupItem_40 rfl (lv_at hl 4 rfl) ?_
      have hQ30 := va_P.subm (u := wRes G ad (o+32+4+1) s1.2.2.2.2.1.2) (fun q h => by simp only [wGrp, wStr, wRR, List.mem_cons, List.mem_append, h, true_or, or_true]) hP
      refine rdS (w0 := [(ad (o+32+4+1+1), .inl (G.2.1, 16, .inl s1.2.2.2.2.1.2.2.2.1))]) (As := [.ref (ad (o+32+4+1+1)), .int sl]) (rest := []) CF (k_X6_at l G 16 (ad (o+32+4+1+1)) s1.2.2.2.2.1.2.2.2.1 sl (by decide)) (va_cwS 2 hts gX6_groupItem_X6_at rfl rfl rfl (by decide +kernel) ⟨Nat.le_of_ble_eq_true rfl, Nat.le_of_ble_eq_true rfl⟩) (hQ30.sub (ws' := [(ad (o+32+4+1+1), .inl (G.2.1, 16, .inl s1.2.2.2.2.1.2.2.2.1))]) [1] rfl) hY rfl hl.1 rfl (lv_room (Nat.le_of_ble_eq_true rfl)) dX6_groupItem_41 ⟨Nat.zero_le _, Nat.zero_le _⟩ ?_
      exact rd_iret hx hb hr hlk (by first | with_reducible rfl | (simp only [rrStr, strGrp, sld_eq, q14_1, eq_true q18_25, ↓reduceIte]; done)) dX6_groupItem_44
    · by_cases q18_31 : gr = 1
      · have hQ32 := va_P.subm (u := wStr G ad (o+32) s1) (fun q h => by simp only [wRR, List.mem_cons, List.mem_append, h, true_or, or_true]) hP
        refine rdV (w0 := (wStr G ad (o+32) s1)) (As := [.int gr]) (rest := []) CF (k_X5_groupOf l G ad (o+32) s1 gr) (cwV 1 hts gX6_groupItem_X5_groupOf rfl rfl rfl (by decide +kernel) ⟨Nat.le_of_ble_eq_true rfl, Nat.le_of_ble_eq_true rfl⟩) hQ32 hY rfl rfl rfl hl.1 rfl (lv_room (Nat.le_of_ble_eq_true rfl)) dX6_groupItem_18 ⟨Nat.zero_le _, Nat.zero_le _⟩ ?_
        rw [show grpRef ad (o+32) gr = ad (o+32+8) from (by simp only [grpRef, q14_1, q18_25, eq_true q18_31, ↓reduceIte])]
        have hQ33 := va_P.subm (u := wGrp G ad (o+32+8) s1.2.2.2.2.2.1) (fun q h => by simp only [wStr, wRR, List.mem_cons, List.mem_append, h, true_or, or_true]) hP
        refine va_getN (D := G.1) (ci := 2) (v := .ref (ad (o+32+8+1))) (C := RX2) (T := TX2) (N := 2) hx hb hts hiX2 hown hY.1 hQ33 0 rfl rfl 0 (by decide) (va_Nw.use rfl (hY.2.1 (.fieldLinkNest RX6 95 RX2 "reservoir" "LReservoirReed$Reservoir;" RX6) (List.mem_of_getElem? (i := 16) rfl))) (fun _ h9 => h9) rfl dX6_groupItem_21 ?_
        refine lv_astore (lv' := [(4, .ref (ad (o+32+8+1))), (0, .ref (ad o)), (1, .int st), (2, .int gr), (3, .int sl)]) hx hb dX6_groupItem_24 hl (by decide) rfl (fun ls hl => ?_)
        refine lv_iload_n hx hb dX6_groupItem_26 rfl (lv_at hl 4 rfl) ?_
        refine lv_aload hx hb dX6_groupItem_27 (lv_at hl 0 rfl) ?_
        have hQ34 := va_P.subm (u := wRes G ad (o+32+8+1) s1.2.2.2.2.2.1.2) (fun q h => by simp only [wGrp, wStr, wRR, List.mem_cons, List.mem_append, h, true_or, or_true]) hP
        refine rdV (w0 := (wRes G ad (o+32+8+1) s1.2.2.2.2.2.1.2)) (As := []) (rest := [.int sl]) CF (k_X4_filled l G ad (o+32+8+1) s1.2.2.2.2.2.1.2) (cwV 0 hts gX6_groupItem_X4_filled rfl rfl rfl (by decide +kernel) ⟨Nat.le_of_ble_eq_true rfl, Nat.le_of_ble_eq_true rfl⟩) hQ34 hY rfl rfl rfl hl.1 rfl (lv_room (Nat.le_of_ble_eq_true rfl)) dX6_groupItem_29 ⟨Nat.zero_le _, Nat.zero_le _⟩ ?_
        refine rvS (w0 := []) (As := [.int sl, .int (resFilled s1.2.2.2.2.2.1.2)]) (rest := []) CF (k_X6_checkPlace l G sl (resFilled s1.2.2.2.2.2.1.2) (by simpa only [rrStr, strGrp, q14_1, q18_25, eq_true q18_31, ↓reduceIte] using hs)) (va_cwS 2 hts gX6_groupItem_X6_checkPlace rfl rfl rfl (by decide +kernel) ⟨Nat.le_of_ble_eq_true rfl, Nat.le_of_ble_eq_true rfl⟩) va_P_nil hY rfl hl.1 rfl (lv_room (Nat.le_of_ble_eq_true rfl)) dX6_groupItem_32 ⟨Nat.zero_le _, Nat.zero_le _⟩ ?_
        refine lv_aload hx hb dX6_groupItem_35 (lv_at hl 0 rfl) ?_
        have hQ35 := va_P.subm (u := wRes G ad (o+32+8+1) s1.2.2.2.2.2.1.2) (fun q h => by simp only [wGrp, wStr, wRR, List.mem_cons, List.mem_append, h, true_or, or_true]) hP
        refine va_getN (D := G.1) (ci := 4) (v := .ref (ad (o+32+8+1+1))) (C := RX4) (T := TX4) (N := 4) hx hb hts hiX4 hown hY.1 hQ35 0 rfl rfl 0 (by decide) (va_Nw.use rfl (hY.2.1 (.fieldLinkNest RX6 84 RX4 "items" "[I" RX6) (List.mem_of_getElem? (i := 14) rfl))) (fun _ h9 => h9) rfl dX6_groupItem_37 ?_
        refine lv_iload_n hx hb dX6_groupItem_40 rfl (lv_at hl 4 rfl) ?_
        have hQ36 := va_P.subm (u := wRes G ad (o+32+8+1) s1.2.2.2.2.2.1.2) (fun q h => by simp only [wGrp, wStr, wRR, List.mem_cons, List.mem_append, h, true_or, or_true]) hP
        refine rdS (w0 := [(ad (o+32+8+1+1), .inl (G.2.1, 16, .inl s1.2.2.2.2.2.1.2.2.2.1))]) (As := [.ref (ad (o+32+8+1+1)), .int sl]) (rest := []) CF (k_X6_at l G 16 (ad (o+32+8+1+1)) s1.2.2.2.2.2.1.2.2.2.1 sl (by decide)) (va_cwS 2 hts gX6_groupItem_X6_at rfl rfl rfl (by decide +kernel) ⟨Nat.le_of_ble_eq_true rfl, Nat.le_of_ble_eq_true rfl⟩) (hQ36.sub (ws' := [(ad (o+32+8+1+1), .inl (G.2.1, 16, .inl s1.2.2.2.2.2.1.2.2.2.1))]) [1] rfl) hY rfl hl.1 rfl (lv_room (Nat.le_of_ble_eq_true rfl)) dX6_groupItem_41 ⟨Nat.zero_le _, Nat.zero_le _⟩ ?_
        exact rd_iret hx hb hr hlk (by first | with_reducible rfl | (simp only [rrStr, strGrp, sld_eq, q14_1, q18_25, eq_true q18_31, ↓reduceIte]; done)) dX6_groupItem_44
      · by_cases q18_37 : gr = 2
        · have hQ38 := va_P.subm (u := wStr G ad (o+32) s1) (fun q h => by simp only [wRR, List.mem_cons, List.mem_append, h, true_or, or_true]) hP
          refine rdV (w0 := (wStr G ad (o+32) s1)) (As := [.int gr]) (rest := []) CF (k_X5_groupOf l G ad (o+32) s1 gr) (cwV 1 hts gX6_groupItem_X5_groupOf rfl rfl rfl (by decide +kernel) ⟨Nat.le_of_ble_eq_true rfl, Nat.le_of_ble_eq_true rfl⟩) hQ38 hY rfl rfl rfl hl.1 rfl (lv_room (Nat.le_of_ble_eq_true rfl)) dX6_groupItem_18 ⟨Nat.zero_le _, Nat.zero_le _⟩ ?_
          rw [show grpRef ad (o+32) gr = ad (o+32+12) from (by simp only [grpRef, q14_1, q18_25, q18_31, eq_true q18_37, ↓reduceIte])]
          have hQ39 := va_P.subm (u := wGrp G ad (o+32+12) s1.2.2.2.2.2.2.1) (fun q h => by simp only [wStr, wRR, List.mem_cons, List.mem_append, h, true_or, or_true]) hP
          refine va_getN (D := G.1) (ci := 2) (v := .ref (ad (o+32+12+1))) (C := RX2) (T := TX2) (N := 2) hx hb hts hiX2 hown hY.1 hQ39 0 rfl rfl 0 (by decide) (va_Nw.use rfl (hY.2.1 (.fieldLinkNest RX6 95 RX2 "reservoir" "LReservoirReed$Reservoir;" RX6) (List.mem_of_getElem? (i := 16) rfl))) (fun _ h9 => h9) rfl dX6_groupItem_21 ?_
          refine lv_astore (lv' := [(4, .ref (ad (o+32+12+1))), (0, .ref (ad o)), (1, .int st), (2, .int gr), (3, .int sl)]) hx hb dX6_groupItem_24 hl (by decide) rfl (fun ls hl => ?_)
          refine lv_iload_n hx hb dX6_groupItem_26 rfl (lv_at hl 4 rfl) ?_
          refine lv_aload hx hb dX6_groupItem_27 (lv_at hl 0 rfl) ?_
          have hQ40 := va_P.subm (u := wRes G ad (o+32+12+1) s1.2.2.2.2.2.2.1.2) (fun q h => by simp only [wGrp, wStr, wRR, List.mem_cons, List.mem_append, h, true_or, or_true]) hP
          refine rdV (w0 := (wRes G ad (o+32+12+1) s1.2.2.2.2.2.2.1.2)) (As := []) (rest := [.int sl]) CF (k_X4_filled l G ad (o+32+12+1) s1.2.2.2.2.2.2.1.2) (cwV 0 hts gX6_groupItem_X4_filled rfl rfl rfl (by decide +kernel) ⟨Nat.le_of_ble_eq_true rfl, Nat.le_of_ble_eq_true rfl⟩) hQ40 hY rfl rfl rfl hl.1 rfl (lv_room (Nat.le_of_ble_eq_true rfl)) dX6_groupItem_29 ⟨Nat.zero_le _, Nat.zero_le _⟩ ?_
          refine rvS (w0 := []) (As := [.int sl, .int (resFilled s1.2.2.2.2.2.2.1.2)]) (rest := []) CF (k_X6_checkPlace l G sl (resFilled s1.2.2.2.2.2.2.1.2) (by simpa only [rrStr, strGrp, q14_1, q18_25, q18_31, eq_true q18_37, ↓reduceIte] using hs)) (va_cwS 2 hts gX6_groupItem_X6_checkPlace rfl rfl rfl (by decide +kernel) ⟨Nat.le_of_ble_eq_true rfl, Nat.le_of_ble_eq_true rfl⟩) va_P_nil hY rfl hl.1 rfl (lv_room (Nat.le_of_ble_eq_true rfl)) dX6_groupItem_32 ⟨Nat.zero_le _, Nat.zero_le _⟩ ?_
          refine lv_aload hx hb dX6_groupItem_35 (lv_at hl 0 rfl) ?_
          have hQ41 := va_P.subm (u := wRes G ad (o+32+12+1) s1.2.2.2.2.2.2.1.2) (fun q h => by simp only [wGrp, wStr, wRR, List.mem_cons, List.mem_append, h, true_or, or_true]) hP
          refine va_getN (D := G.1) (ci := 4) (v := .ref (ad (o+32+12+1+1))) (C := RX4) (T := TX4) (N := 4) hx hb hts hiX4 hown hY.1 hQ41 0 rfl rfl 0 (by decide) (va_Nw.use rfl (hY.2.1 (.fieldLinkNest RX6 84 RX4 "items" "[I" RX6) (List.mem_of_getElem? (i := 14) rfl))) (fun _ h9 => h9) rfl dX6_groupItem_37 ?_
          refine lv_iload_n hx hb dX6_groupItem_40 rfl (lv_at hl 4 rfl) ?_
          have hQ42 := va_P.subm (u := wRes G ad (o+32+12+1) s1.2.2.2.2.2.2.1.2) (fun q h => by simp only [wGrp, wStr, wRR, List.mem_cons, List.mem_append, h, true_or, or_true]) hP
          refine rdS (w0 := [(ad (o+32+12+1+1), .inl (G.2.1, 16, .inl s1.2.2.2.2.2.2.1.2.2.2.1))]) (As := [.ref (ad (o+32+12+1+1)), .int sl]) (rest := []) CF (k_X6_at l G 16 (ad (o+32+12+1+1)) s1.2.2.2.2.2.2.1.2.2.2.1 sl (by decide)) (va_cwS 2 hts gX6_groupItem_X6_at rfl rfl rfl (by decide +kernel) ⟨Nat.le_of_ble_eq_true rfl, Nat.le_of_ble_eq_true rfl⟩) (hQ42.sub (ws' := [(ad (o+32+12+1+1), .inl (G.2.1, 16, .inl s1.2.2.2.2.2.2.1.2.2.2.1))]) [1] rfl) hY rfl hl.1 rfl (lv_room (Nat.le_of_ble_eq_true rfl)) dX6_groupItem_41 ⟨Nat.zero_le _, Nat.zero_le _⟩ ?_
          exact rd_iret hx hb hr hlk (by first | with_reducible rfl | (simp only [rrStr, strGrp, sld_eq, q14_1, q18_25, q18_31, eq_true q18_37, ↓reduceIte]; done)) dX6_groupItem_44
        · have hQ43 := va_P.subm (u := wStr G ad (o+32) s1) (fun q h => by simp only [wRR, List.mem_cons, List.mem_append, h, true_or, or_true]) hP
          refine rdV (w0 := (wStr G ad (o+32) s1)) (As := [.int gr]) (rest := []) CF (k_X5_groupOf l G ad (o+32) s1 gr) (cwV 1 hts gX6_groupItem_X5_groupOf rfl rfl rfl (by decide +kernel) ⟨Nat.le_of_ble_eq_true rfl, Nat.le_of_ble_eq_true rfl⟩) hQ43 hY rfl rfl rfl hl.1 rfl (lv_room (Nat.le_of_ble_eq_true rfl)) dX6_groupItem_18 ⟨Nat.zero_le _, Nat.zero_le _⟩ ?_
          rw [show grpRef ad (o+32) gr = ad (o+32+16) from (by simp only [grpRef, q14_1, q18_25, q18_31, q18_37, ↓reduceIte])]
          have hQ44 := va_P.subm (u := wGrp G ad (o+32+16) s1.2.2.2.2.2.2.2.1) (fun q h => by simp only [wStr, wRR, List.mem_cons, List.mem_append, h, true_or, or_true]) hP
          refine va_getN (D := G.1) (ci := 2) (v := .ref (ad (o+32+16+1))) (C := RX2) (T := TX2) (N := 2) hx hb hts hiX2 hown hY.1 hQ44 0 rfl rfl 0 (by decide) (va_Nw.use rfl (hY.2.1 (.fieldLinkNest RX6 95 RX2 "reservoir" "LReservoirReed$Reservoir;" RX6) (List.mem_of_getElem? (i := 16) rfl))) (fun _ h9 => h9) rfl dX6_groupItem_21 ?_
          refine lv_astore (lv' := [(4, .ref (ad (o+32+16+1))), (0, .ref (ad o)), (1, .int st), (2, .int gr), (3, .int sl)]) hx hb dX6_groupItem_24 hl (by decide) rfl (fun ls hl => ?_)
          refine lv_iload_n hx hb dX6_groupItem_26 rfl (lv_at hl 4 rfl) ?_
          refine lv_aload hx hb dX6_groupItem_27 (lv_at hl 0 rfl) ?_
          have hQ45 := va_P.subm (u := wRes G ad (o+32+16+1) s1.2.2.2.2.2.2.2.1.2) (fun q h => by simp only [wGrp, wStr, wRR, List.mem_cons, List.mem_append, h, true_or, or_true]) hP
          refine rdV (w0 := (wRes G ad (o+32+16+1) s1.2.2.2.2.2.2.2.1.2)) (As := []) (rest := [.int sl]) CF (k_X4_filled l G ad (o+32+16+1) s1.2.2.2.2.2.2.2.1.2) (cwV 0 hts gX6_groupItem_X4_filled rfl rfl rfl (by decide +kernel) ⟨Nat.le_of_ble_eq_true rfl, Nat.le_of_ble_eq_true rfl⟩) hQ45 hY rfl rfl rfl hl.1 rfl (lv_room (Nat.le_of_ble_eq_true rfl)) dX6_groupItem_29 ⟨Nat.zero_le _, Nat.zero_le _⟩ ?_
          refine rvS (w0 := []) (As := [.int sl, .int (resFilled s1.2.2.2.2.2.2.2.1.2)]) (rest := []) CF (k_X6_checkPlace l G sl (resFilled s1.2.2.2.2.2.2.2.1.2) (by simpa only [rrStr, strGrp, q14_1, q18_25, q18_31, q18_37, ↓reduceIte] using hs)) (va_cwS 2 hts gX6_groupItem_X6_checkPlace rfl rfl rfl (by decide +kernel) ⟨Nat.le_of_ble_eq_true rfl, Nat.le_of_ble_eq_true rfl⟩) va_P_nil hY rfl hl.1 rfl (lv_room (Nat.le_of_ble_eq_true rfl)) dX6_groupItem_32 ⟨Nat.zero_le _, Nat.zero_le _⟩ ?_
          refine lv_aload hx hb dX6_groupItem_35 (lv_at hl 0 rfl) ?_
          have hQ46 := va_P.subm (u := wRes G ad (o+32+16+1) s1.2.2.2.2.2.2.2.1.2) (fun q h => by simp only [wGrp, wStr, wRR, List.mem_cons, List.mem_append, h, true_or, or_true]) hP
          refine va_getN (D := G.1) (ci := 4) (v := .ref (ad (o+32+16+1+1))) (C := RX4) (T := TX4) (N := 4) hx hb hts hiX4 hown hY.1 hQ46 0 rfl rfl 0 (by decide) (va_Nw.use rfl (hY.2.1 (.fieldLinkNest RX6 84 RX4 "items" "[I" RX6) (List.mem_of_getElem? (i := 14) rfl))) (fun _ h9 => h9) rfl dX6_groupItem_37 ?_
          refine lv_iload_n hx hb dX6_groupItem_40 rfl (lv_at hl 4 rfl) ?_
          have hQ47 := va_P.subm (u := wRes G ad (o+32+16+1) s1.2.2.2.2.2.2.2.1.2) (fun q h => by simp only [wGrp, wStr, wRR, List.mem_cons, List.mem_append, h, true_or, or_true]) hP
          refine rdS (w0 := [(ad (o+32+16+1+1), .inl (G.2.1, 16, .inl s1.2.2.2.2.2.2.2.1.2.2.2.1))]) (As := [.ref (ad (o+32+16+1+1)), .int sl]) (rest := []) CF (k_X6_at l G 16 (ad (o+32+16+1+1)) s1.2.2.2.2.2.2.2.1.2.2.2.1 sl (by decide)) (va_cwS 2 hts gX6_groupItem_X6_at rfl rfl rfl (by decide +kernel) ⟨Nat.le_of_ble_eq_true rfl, Nat.le_of_ble_eq_true rfl⟩) (hQ47.sub (ws' := [(ad (o+32+16+1+1), .inl (G.2.1, 16, .inl s1.2.2.2.2.2.2.2.1.2.2.2.1))]) [1] rfl) hY rfl hl.1 rfl (lv_room (Nat.le_of_ble_eq_true rfl)) dX6_groupItem_41 ⟨Nat.zero_le _, Nat.zero_le _⟩ ?_
          exact rd_iret hx hb hr hlk (by first | with_reducible rfl | (simp only [rrStr, strGrp, sld_eq, q14_1, q18_25, q18_31, q18_37, ↓reduceIte]; done)) dX6_groupItem_44

set_option maxHeartbeats 4000000 in
set_option maxRecDepth 100000 in
theorem kn_X6_groupItem (l : Launch) (hl0 : l.stackTraces = false) (G : GT) (ad : Nat → Nat) (o : Nat) (sg : RRT) (st gr sl : Int32) (hk : ¬ (okA st 0 1 ∧ okA gr 0 3)) : No l yX6_groupItem wsX6_groupItem { frames := 7, cells := 1, slots := 6, locals := 122 } G (wRR G ad o sg) (wRR G ad o sg) [.ref (ad o), .int st, .int gr, .int sl] "java/lang/IllegalArgumentException" := by
  intro sz
  obtain ⟨k, s0, s1, mp, md⟩ := sg
  refine vx_ofW (cc := cX6_groupItem) (maxL := 5) (ret := (some .int)) (by decide) rfl ?_
  intro p e s m args below meth c s₁ B hml ht hv
  obtain ⟨rfl, hsz, hP, hY, hD0, hZ0⟩ := hv
  subst hsz
  have hD := hD0.self (sz := s.heap.size)
  generalize hAe : va_A (wRR G ad o (k, s0, s1, mp, md)) s.heap.size = A at hD hZ0 ⊢
  have hZ : Zs A s s.heap := hZ0
  have hA : ∀ q : Nat, s.heap.size ≤ q → A q := fun q h => by rw [← hAe]; exact Or.inr h
  have hS : va_S A s.heap s.heap [] := va_S.rf
  have hx := B.exec
  have hb := B.bytes
  have hr := B.returns
  have hts := atoms_spec (ws := wsX6_groupItem) B.pre
  have hown : s.vm.findClass RX6 = some m.cls := findClass_of_methodNamed B.named
  have hlk := B.notSynchronized
  have CF : CallFix p m c cX6_groupItem 5 s _ wsX6_groupItem RX6 := ⟨hx, hb, hml, hown, hts⟩
  have hl := lv_entry ([.ref (ad o), .int st, .int gr, .int sl]) (n := 5) (Nat.le_of_ble_eq_true rfl)
  rw [lg_entry_eq]
  generalize (lg_sl ([.ref (ad o), .int st, .int gr, .int sl]) ++ List.replicate (5 - (lg_sl ([.ref (ad o), .int st, .int gr, .int sl])).length) Slot.unset).toArray = ls at hl ⊢
  have hl : lv_has ls 5 [(0, .ref (ad o)), (1, .int st), (2, .int gr), (3, .int sl)] := hl
  refine lv_iload_n hx hb dX6_groupItem_0 rfl (lv_at hl 1 rfl) ?_
  refine lv_iconst (v := 0) hx hb dX6_groupItem_1 (by decide) ?_
  refine lv_iconst (v := 1) hx hb dX6_groupItem_2 (by decide) ?_
  by_cases q3_1 : okA st 0 1
  · refine rvS (w0 := []) (As := [.int st, .int 0, .int 1]) (rest := []) CF (k_X6_checkArgument l G st 0 1 q3_1) (va_cwS 3 hts gX6_groupItem_X6_checkArgument rfl rfl rfl (by decide +kernel) ⟨Nat.le_of_ble_eq_true rfl, Nat.le_of_ble_eq_true rfl⟩) va_P_nil hY rfl hl.1 rfl (lv_room (Nat.le_of_ble_eq_true rfl)) dX6_groupItem_3 ⟨Nat.zero_le _, Nat.zero_le _⟩ ?_
    refine lv_iload_n hx hb dX6_groupItem_6 rfl (lv_at hl 2 rfl) ?_
    refine lv_iconst (v := 0) hx hb dX6_groupItem_7 (by decide) ?_
    refine lv_iconst (v := 3) hx hb dX6_groupItem_8 (by decide) ?_
    by_cases q9_2 : okA gr 0 3
    · refine rvS (w0 := []) (As := [.int gr, .int 0, .int 3]) (rest := []) CF (k_X6_checkArgument l G gr 0 3 q9_2) (va_cwS 3 hts gX6_groupItem_X6_checkArgument rfl rfl rfl (by decide +kernel) ⟨Nat.le_of_ble_eq_true rfl, Nat.le_of_ble_eq_true rfl⟩) va_P_nil hY rfl hl.1 rfl (lv_room (Nat.le_of_ble_eq_true rfl)) dX6_groupItem_9 ⟨Nat.zero_le _, Nat.zero_le _⟩ ?_
      exact absurd ⟨q3_1, q9_2⟩ hk
    · refine noS0 (As := [.int gr, .int 0, .int 3]) (rest := []) CF (kn_X6_checkArgument l hl0 G gr 0 3 q9_2) (va_cwS 3 hts gX6_groupItem_X6_checkArgument rfl rfl rfl (by decide +kernel) ⟨Nat.le_of_ble_eq_true rfl, Nat.le_of_ble_eq_true rfl⟩) hP hD hS hA hY hZ rfl hl.1 rfl (lv_room (Nat.le_of_ble_eq_true rfl)) dX6_groupItem_9 ⟨Nat.le_of_ble_eq_true rfl, Nat.le_of_ble_eq_true rfl⟩ (fun ce q9 H locs hP hD hS hce hcv hcl hgr => ?_)
      exact no_out ht hlk hce hcv hcl hgr hS hP (by first | with_reducible rfl | (simp only [rrStr, strGrp, sld_eq, q3_1, q9_2, ↓reduceIte]; done))
  · refine noS0 (As := [.int st, .int 0, .int 1]) (rest := []) CF (kn_X6_checkArgument l hl0 G st 0 1 q3_1) (va_cwS 3 hts gX6_groupItem_X6_checkArgument rfl rfl rfl (by decide +kernel) ⟨Nat.le_of_ble_eq_true rfl, Nat.le_of_ble_eq_true rfl⟩) hP hD hS hA hY hZ rfl hl.1 rfl (lv_room (Nat.le_of_ble_eq_true rfl)) dX6_groupItem_3 ⟨Nat.le_of_ble_eq_true rfl, Nat.le_of_ble_eq_true rfl⟩ (fun ce q9 H locs hP hD hS hce hcv hcl hgr => ?_)
    exact no_out ht hlk hce hcv hcl hgr hS hP (by first | with_reducible rfl | (simp only [rrStr, strGrp, sld_eq, q3_1, ↓reduceIte]; done))

set_option maxHeartbeats 4000000 in
set_option maxRecDepth 100000 in
theorem kn2_X6_groupItem (l : Launch) (hl0 : l.stackTraces = false) (G : GT) (ad : Nat → Nat) (o : Nat) (sg : RRT) (st gr sl : Int32) (h0 : okA st 0 1) (h1 : okA gr 0 3) (hs : ¬ okP sl (resFilled (strGrp (rrStr sg st) gr).2)) : No l yX6_groupItem wsX6_groupItem { frames := 7, cells := 1, slots := 6, locals := 122 } G (wRR G ad o sg) (wRR G ad o sg) [.ref (ad o), .int st, .int gr, .int sl] "java/lang/IndexOutOfBoundsException" := by
  intro sz
  obtain ⟨k, s0, s1, mp, md⟩ := sg
  refine vx_ofW (cc := cX6_groupItem) (maxL := 5) (ret := (some .int)) (by decide) rfl ?_
  intro p e s m args below meth c s₁ B hml ht hv
  obtain ⟨rfl, hsz, hP, hY, hD0, hZ0⟩ := hv
  subst hsz
  have hD := hD0.self (sz := s.heap.size)
  generalize hAe : va_A (wRR G ad o (k, s0, s1, mp, md)) s.heap.size = A at hD hZ0 ⊢
  have hZ : Zs A s s.heap := hZ0
  have hA : ∀ q : Nat, s.heap.size ≤ q → A q := fun q h => by rw [← hAe]; exact Or.inr h
  have hS : va_S A s.heap s.heap [] := va_S.rf
  have hx := B.exec
  have hb := B.bytes
  have hr := B.returns
  have hts := atoms_spec (ws := wsX6_groupItem) B.pre
  have hown : s.vm.findClass RX6 = some m.cls := findClass_of_methodNamed B.named
  have hlk := B.notSynchronized
  have CF : CallFix p m c cX6_groupItem 5 s _ wsX6_groupItem RX6 := ⟨hx, hb, hml, hown, hts⟩
  have hiX2 : ∀ w ∈ wsX20, w ∈ wsX6_groupItem := fun w h => (List.mem_cons_of_mem _ (List.mem_append_left _ (List.mem_append_left _ (List.mem_append_left _ (List.mem_append_left _ (List.mem_append_left _ (List.mem_append_right _ h)))))))
  have hl := lv_entry ([.ref (ad o), .int st, .int gr, .int sl]) (n := 5) (Nat.le_of_ble_eq_true rfl)
  rw [lg_entry_eq]
  generalize (lg_sl ([.ref (ad o), .int st, .int gr, .int sl]) ++ List.replicate (5 - (lg_sl ([.ref (ad o), .int st, .int gr, .int sl])).length) Slot.unset).toArray = ls at hl ⊢
  have hl : lv_has ls 5 [(0, .ref (ad o)), (1, .int st), (2, .int gr), (3, .int sl)] := hl
  refine lv_iload_n hx hb dX6_groupItem_0 rfl (lv_at hl 1 rfl) ?_
  refine lv_iconst (v := 0) hx hb dX6_groupItem_1 (by decide) ?_
  refine lv_iconst (v := 1) hx hb dX6_groupItem_2 (by decide) ?_
  refine rvS (w0 := []) (As := [.int st, .int 0, .int 1]) (rest := []) CF (k_X6_checkArgument l G st 0 1 h0) (va_cwS 3 hts gX6_groupItem_X6_checkArgument rfl rfl rfl (by decide +kernel) ⟨Nat.le_of_ble_eq_true rfl, Nat.le_of_ble_eq_true rfl⟩) va_P_nil hY rfl hl.1 rfl (lv_room (Nat.le_of_ble_eq_true rfl)) dX6_groupItem_3 ⟨Nat.zero_le _, Nat.zero_le _⟩ ?_
  refine lv_iload_n hx hb dX6_groupItem_6 rfl (lv_at hl 2 rfl) ?_
  refine lv_iconst (v := 0) hx hb dX6_groupItem_7 (by decide) ?_
  refine lv_iconst (v := 3) hx hb dX6_groupItem_8 (by decide) ?_
  refine rvS (w0 := []) (As := [.int gr, .int 0, .int 3]) (rest := []) CF (k_X6_checkArgument l G gr 0 3 h1) (va_cwS 3 hts gX6_groupItem_X6_checkArgument rfl rfl rfl (by decide +kernel) ⟨Nat.le_of_ble_eq_true rfl, Nat.le_of_ble_eq_true rfl⟩) va_P_nil hY rfl hl.1 rfl (lv_room (Nat.le_of_ble_eq_true rfl)) dX6_groupItem_9 ⟨Nat.zero_le _, Nat.zero_le _⟩ ?_
  refine lv_aload_n hx hb dX6_groupItem_12 rfl (lv_at hl 0 rfl) ?_
  refine lv_iload_n hx hb dX6_groupItem_13 rfl (lv_at hl 1 rfl) ?_
  by_cases q14_1 : st = 0
  · refine rdV (w0 := (wRR G ad o (k, s0, s1, mp, md))) (As := [.int st]) (rest := []) CF (k0_X6_streamOf l G ad o (k, s0, s1, mp, md) st q14_1) (cwV 1 hts gX6_groupItem_X6_streamOf rfl rfl rfl (by decide +kernel) ⟨Nat.le_of_ble_eq_true rfl, Nat.le_of_ble_eq_true rfl⟩) hP hY rfl rfl rfl hl.1 rfl (lv_room (Nat.le_of_ble_eq_true rfl)) dX6_groupItem_14 ⟨Nat.zero_le _, Nat.zero_le _⟩ ?_
    refine lv_iload_n hx hb dX6_groupItem_17 rfl (lv_at hl 2 rfl) ?_
    by_cases q18_2 : gr = 0
    · have hQ3 := va_P.subm (u := wStr G ad (o+1) s0) (fun q h => by simp only [wRR, List.mem_cons, List.mem_append, h, true_or, or_true]) hP
      refine rdV (w0 := (wStr G ad (o+1) s0)) (As := [.int gr]) (rest := []) CF (k_X5_groupOf l G ad (o+1) s0 gr) (cwV 1 hts gX6_groupItem_X5_groupOf rfl rfl rfl (by decide +kernel) ⟨Nat.le_of_ble_eq_true rfl, Nat.le_of_ble_eq_true rfl⟩) hQ3 hY rfl rfl rfl hl.1 rfl (lv_room (Nat.le_of_ble_eq_true rfl)) dX6_groupItem_18 ⟨Nat.zero_le _, Nat.zero_le _⟩ ?_
      rw [show grpRef ad (o+1) gr = ad (o+1+4) from (by simp only [grpRef, eq_true q14_1, eq_true q18_2, ↓reduceIte])]
      have hQ4 := va_P.subm (u := wGrp G ad (o+1+4) s0.2.2.2.2.1) (fun q h => by simp only [wStr, wRR, List.mem_cons, List.mem_append, h, true_or, or_true]) hP
      refine va_getN (D := G.1) (ci := 2) (v := .ref (ad (o+1+4+1))) (C := RX2) (T := TX2) (N := 2) hx hb hts hiX2 hown hY.1 hQ4 0 rfl rfl 0 (by decide) (va_Nw.use rfl (hY.2.1 (.fieldLinkNest RX6 95 RX2 "reservoir" "LReservoirReed$Reservoir;" RX6) (List.mem_of_getElem? (i := 16) rfl))) (fun _ h9 => h9) rfl dX6_groupItem_21 ?_
      refine lv_astore (lv' := [(4, .ref (ad (o+1+4+1))), (0, .ref (ad o)), (1, .int st), (2, .int gr), (3, .int sl)]) hx hb dX6_groupItem_24 hl (by decide) rfl (fun ls hl => ?_)
      refine lv_iload_n hx hb dX6_groupItem_26 rfl (lv_at hl 4 rfl) ?_
      refine lv_aload hx hb dX6_groupItem_27 (lv_at hl 0 rfl) ?_
      have hQ5 := va_P.subm (u := wRes G ad (o+1+4+1) s0.2.2.2.2.1.2) (fun q h => by simp only [wGrp, wStr, wRR, List.mem_cons, List.mem_append, h, true_or, or_true]) hP
      refine rdV (w0 := (wRes G ad (o+1+4+1) s0.2.2.2.2.1.2)) (As := []) (rest := [.int sl]) CF (k_X4_filled l G ad (o+1+4+1) s0.2.2.2.2.1.2) (cwV 0 hts gX6_groupItem_X4_filled rfl rfl rfl (by decide +kernel) ⟨Nat.le_of_ble_eq_true rfl, Nat.le_of_ble_eq_true rfl⟩) hQ5 hY rfl rfl rfl hl.1 rfl (lv_room (Nat.le_of_ble_eq_true rfl)) dX6_groupItem_29 ⟨Nat.zero_le _, Nat.zero_le _⟩ ?_
      refine noS0 (As := [.int sl, .int (resFilled s0.2.2.2.2.1.2)]) (rest := []) CF (kn_X6_checkPlace l hl0 G sl (resFilled s0.2.2.2.2.1.2) (by simpa only [rrStr, strGrp, eq_true q14_1, eq_true q18_2, ↓reduceIte] using hs)) (va_cwS 2 hts gX6_groupItem_X6_checkPlace rfl rfl rfl (by decide +kernel) ⟨Nat.le_of_ble_eq_true rfl, Nat.le_of_ble_eq_true rfl⟩) hP hD hS hA hY hZ rfl hl.1 rfl (lv_room (Nat.le_of_ble_eq_true rfl)) dX6_groupItem_32 ⟨Nat.le_of_ble_eq_true rfl, Nat.le_of_ble_eq_true rfl⟩ (fun ce q9 H locs hP hD hS hce hcv hcl hgr => ?_)
      exact no_out ht hlk hce hcv hcl hgr hS hP (by first | with_reducible rfl | (simp only [rrStr, strGrp, sld_eq, eq_true q14_1, eq_true q18_2, ↓reduceIte]; done))
    · by_cases q18_6 : gr = 1
      · have hQ7 := va_P.subm (u := wStr G ad (o+1) s0) (fun q h => by simp only [wRR, List.mem_cons, List.mem_append, h, true_or, or_true]) hP
        refine rdV (w0 := (wStr G ad (o+1) s0)) (As := [.int gr]) (rest := []) CF (k_X5_groupOf l G ad (o+1) s0 gr) (cwV 1 hts gX6_groupItem_X5_groupOf rfl rfl rfl (by decide +kernel) ⟨Nat.le_of_ble_eq_true rfl, Nat.le_of_ble_eq_true rfl⟩) hQ7 hY rfl rfl rfl hl.1 rfl (lv_room (Nat.le_of_ble_eq_true rfl)) dX6_groupItem_18 ⟨Nat.zero_le _, Nat.zero_le _⟩ ?_
        rw [show grpRef ad (o+1) gr = ad (o+1+8) from (by simp only [grpRef, eq_true q14_1, q18_2, eq_true q18_6, ↓reduceIte])]
        have hQ8 := va_P.subm (u := wGrp G ad (o+1+8) s0.2.2.2.2.2.1) (fun q h => by simp only [wStr, wRR, List.mem_cons, List.mem_append, h, true_or, or_true]) hP
        refine va_getN (D := G.1) (ci := 2) (v := .ref (ad (o+1+8+1))) (C := RX2) (T := TX2) (N := 2) hx hb hts hiX2 hown hY.1 hQ8 0 rfl rfl 0 (by decide) (va_Nw.use rfl (hY.2.1 (.fieldLinkNest RX6 95 RX2 "reservoir" "LReservoirReed$Reservoir;" RX6) (List.mem_of_getElem? (i := 16) rfl))) (fun _ h9 => h9) rfl dX6_groupItem_21 ?_
        refine lv_astore (lv' := [(4, .ref (ad (o+1+8+1))), (0, .ref (ad o)), (1, .int st), (2, .int gr), (3, .int sl)]) hx hb dX6_groupItem_24 hl (by decide) rfl (fun ls hl => ?_)
        refine lv_iload_n hx hb dX6_groupItem_26 rfl (lv_at hl 4 rfl) ?_
        refine lv_aload hx hb dX6_groupItem_27 (lv_at hl 0 rfl) ?_
        have hQ9 := va_P.subm (u := wRes G ad (o+1+8+1) s0.2.2.2.2.2.1.2) (fun q h => by simp only [wGrp, wStr, wRR, List.mem_cons, List.mem_append, h, true_or, or_true]) hP
        refine rdV (w0 := (wRes G ad (o+1+8+1) s0.2.2.2.2.2.1.2)) (As := []) (rest := [.int sl]) CF (k_X4_filled l G ad (o+1+8+1) s0.2.2.2.2.2.1.2) (cwV 0 hts gX6_groupItem_X4_filled rfl rfl rfl (by decide +kernel) ⟨Nat.le_of_ble_eq_true rfl, Nat.le_of_ble_eq_true rfl⟩) hQ9 hY rfl rfl rfl hl.1 rfl (lv_room (Nat.le_of_ble_eq_true rfl)) dX6_groupItem_29 ⟨Nat.zero_le _, Nat.zero_le _⟩ ?_
        refine noS0 (As := [.int sl, .int (resFilled s0.2.2.2.2.2.1.2)]) (rest := []) CF (kn_X6_checkPlace l hl0 G sl (resFilled s0.2.2.2.2.2.1.2) (by simpa only [rrStr, strGrp, eq_true q14_1, q18_2, eq_true q18_6, ↓reduceIte] using hs)) (va_cwS 2 hts gX6_groupItem_X6_checkPlace rfl rfl rfl (by decide +kernel) ⟨Nat.le_of_ble_eq_true rfl, Nat.le_of_ble_eq_true rfl⟩) hP hD hS hA hY hZ rfl hl.1 rfl (lv_room (Nat.le_of_ble_eq_true rfl)) dX6_groupItem_32 ⟨Nat.le_of_ble_eq_true rfl, Nat.le_of_ble_eq_true rfl⟩ (fun ce q9 H locs hP hD hS hce hcv hcl hgr => ?_)
        exact no_out ht hlk hce hcv hcl hgr hS hP (by first | with_reducible rfl | (simp only [rrStr, strGrp, sld_eq, eq_true q14_1, q18_2, eq_true q18_6, ↓reduceIte]; done))
      · by_cases q18_10 : gr = 2
        · have hQ11 := va_P.subm (u := wStr G ad (o+1) s0) (fun q h => by simp only [wRR, List.mem_cons, List.mem_append, h, true_or, or_true]) hP
          refine rdV (w0 := (wStr G ad (o+1) s0)) (As := [.int gr]) (rest := []) CF (k_X5_groupOf l G ad (o+1) s0 gr) (cwV 1 hts gX6_groupItem_X5_groupOf rfl rfl rfl (by decide +kernel) ⟨Nat.le_of_ble_eq_true rfl, Nat.le_of_ble_eq_true rfl⟩) hQ11 hY rfl rfl rfl hl.1 rfl (lv_room (Nat.le_of_ble_eq_true rfl)) dX6_groupItem_18 ⟨Nat.zero_le _, Nat.zero_le _⟩ ?_
          rw [show grpRef ad (o+1) gr = ad (o+1+12) from (by simp only [grpRef, eq_true q14_1, q18_2, q18_6, eq_true q18_10, ↓reduceIte])]
          have hQ12 := va_P.subm (u := wGrp G ad (o+1+12) s0.2.2.2.2.2.2.1) (fun q h => by simp only [wStr, wRR, List.mem_cons, List.mem_append, h, true_or, or_true]) hP
          refine va_getN (D := G.1) (ci := 2) (v := .ref (ad (o+1+12+1))) (C := RX2) (T := TX2) (N := 2) hx hb hts hiX2 hown hY.1 hQ12 0 rfl rfl 0 (by decide) (va_Nw.use rfl (hY.2.1 (.fieldLinkNest RX6 95 RX2 "reservoir" "LReservoirReed$Reservoir;" RX6) (List.mem_of_getElem? (i := 16) rfl))) (fun _ h9 => h9) rfl dX6_groupItem_21 ?_
          refine lv_astore (lv' := [(4, .ref (ad (o+1+12+1))), (0, .ref (ad o)), (1, .int st), (2, .int gr), (3, .int sl)]) hx hb dX6_groupItem_24 hl (by decide) rfl (fun ls hl => ?_)
          refine lv_iload_n hx hb dX6_groupItem_26 rfl (lv_at hl 4 rfl) ?_
          refine lv_aload hx hb dX6_groupItem_27 (lv_at hl 0 rfl) ?_
          have hQ13 := va_P.subm (u := wRes G ad (o+1+12+1) s0.2.2.2.2.2.2.1.2) (fun q h => by simp only [wGrp, wStr, wRR, List.mem_cons, List.mem_append, h, true_or, or_true]) hP
          refine rdV (w0 := (wRes G ad (o+1+12+1) s0.2.2.2.2.2.2.1.2)) (As := []) (rest := [.int sl]) CF (k_X4_filled l G ad (o+1+12+1) s0.2.2.2.2.2.2.1.2) (cwV 0 hts gX6_groupItem_X4_filled rfl rfl rfl (by decide +kernel) ⟨Nat.le_of_ble_eq_true rfl, Nat.le_of_ble_eq_true rfl⟩) hQ13 hY rfl rfl rfl hl.1 rfl (lv_room (Nat.le_of_ble_eq_true rfl)) dX6_groupItem_29 ⟨Nat.zero_le _, Nat.zero_le _⟩ ?_
          refine noS0 (As := [.int sl, .int (resFilled s0.2.2.2.2.2.2.1.2)]) (rest := []) CF (kn_X6_checkPlace l hl0 G sl (resFilled s0.2.2.2.2.2.2.1.2) (by simpa only [rrStr, strGrp, eq_true q14_1, q18_2, q18_6, eq_true q18_10, ↓reduceIte] using hs)) (va_cwS 2 hts gX6_groupItem_X6_checkPlace rfl rfl rfl (by decide +kernel) ⟨Nat.le_of_ble_eq_true rfl, Nat.le_of_ble_eq_true rfl⟩) hP hD hS hA hY hZ rfl hl.1 rfl (lv_room (Nat.le_of_ble_eq_true rfl)) dX6_groupItem_32 ⟨Nat.le_of_ble_eq_true rfl, Nat.le_of_ble_eq_true rfl⟩ (fun ce q9 H locs hP hD hS hce hcv hcl hgr => ?_)
          exact no_out ht hlk hce hcv hcl hgr hS hP (by first | with_reducible rfl | (simp only [rrStr, strGrp, sld_eq, eq_true q14_1, q18_2, q18_6, eq_true q18_10, ↓reduceIte]; done))
        · have hQ14 := va_P.subm (u := wStr G ad (o+1) s0) (fun q h => by simp only [wRR, List.mem_cons, List.mem_append, h, true_or, or_true]) hP
          refine rdV (w0 := (wStr G ad (o+1) s0)) (As := [.int gr]) (rest := []) CF (k_X5_groupOf l G ad (o+1) s0 gr) (cwV 1 hts gX6_groupItem_X5_groupOf rfl rfl rfl (by decide +kernel) ⟨Nat.le_of_ble_eq_true rfl, Nat.le_of_ble_eq_true rfl⟩) hQ14 hY rfl rfl rfl hl.1 rfl (lv_room (Nat.le_of_ble_eq_true rfl)) dX6_groupItem_18 ⟨Nat.zero_le _, Nat.zero_le _⟩ ?_
          rw [show grpRef ad (o+1) gr = ad (o+1+16) from (by simp only [grpRef, eq_true q14_1, q18_2, q18_6, q18_10, ↓reduceIte])]
          have hQ15 := va_P.subm (u := wGrp G ad (o+1+16) s0.2.2.2.2.2.2.2.1) (fun q h => by simp only [wStr, wRR, List.mem_cons, List.mem_append, h, true_or, or_true]) hP
          refine va_getN (D := G.1) (ci := 2) (v := .ref (ad (o+1+16+1))) (C := RX2) (T := TX2) (N := 2) hx hb hts hiX2 hown hY.1 hQ15 0 rfl rfl 0 (by decide) (va_Nw.use rfl (hY.2.1 (.fieldLinkNest RX6 95 RX2 "reservoir" "LReservoirReed$Reservoir;" RX6) (List.mem_of_getElem? (i := 16) rfl))) (fun _ h9 => h9) rfl dX6_groupItem_21 ?_
          refine lv_astore (lv' := [(4, .ref (ad (o+1+16+1))), (0, .ref (ad o)), (1, .int st), (2, .int gr), (3, .int sl)]) hx hb dX6_groupItem_24 hl (by decide) rfl (fun ls hl => ?_)
          refine lv_iload_n hx hb dX6_groupItem_26 rfl (lv_at hl 4 rfl) ?_
          refine lv_aload hx hb dX6_groupItem_27 (lv_at hl 0 rfl) ?_
          have hQ16 := va_P.subm (u := wRes G ad (o+1+16+1) s0.2.2.2.2.2.2.2.1.2) (fun q h => by simp only [wGrp, wStr, wRR, List.mem_cons, List.mem_append, h, true_or, or_true]) hP
          refine rdV (w0 := (wRes G ad (o+1+16+1) s0.2.2.2.2.2.2.2.1.2)) (As := []) (rest := [.int sl]) CF (k_X4_filled l G ad (o+1+16+1) s0.2.2.2.2.2.2.2.1.2) (cwV 0 hts gX6_groupItem_X4_filled rfl rfl rfl (by decide +kernel) ⟨Nat.le_of_ble_eq_true rfl, Nat.le_of_ble_eq_true rfl⟩) hQ16 hY rfl rfl rfl hl.1 rfl (lv_room (Nat.le_of_ble_eq_true rfl)) dX6_groupItem_29 ⟨Nat.zero_le _, Nat.zero_le _⟩ ?_
          refine noS0 (As := [.int sl, .int (resFilled s0.2.2.2.2.2.2.2.1.2)]) (rest := []) CF (kn_X6_checkPlace l hl0 G sl (resFilled s0.2.2.2.2.2.2.2.1.2) (by simpa only [rrStr, strGrp, eq_true q14_1, q18_2, q18_6, q18_10, ↓reduceIte] using hs)) (va_cwS 2 hts gX6_groupItem_X6_checkPlace rfl rfl rfl (by decide +kernel) ⟨Nat.le_of_ble_eq_true rfl, Nat.le_of_ble_eq_true rfl⟩) hP hD hS hA hY hZ rfl hl.1 rfl (lv_room (Nat.le_of_ble_eq_true rfl)) dX6_groupItem_32 ⟨Nat.le_of_ble_eq_true rfl, Nat.le_of_ble_eq_true rfl⟩ (fun ce q9 H locs hP hD hS hce hcv hcl hgr => ?_)
          exact no_out ht hlk hce hcv hcl hgr hS hP (by first | with_reducible rfl | (simp only [rrStr, strGrp, sld_eq, eq_true q14_1, q18_2, q18_6, q18_10, ↓reduceIte]; done))
  · refine rdV (w0 := (wRR G ad o (k, s0, s1, mp, md))) (As := [.int st]) (rest := []) CF (k1_X6_streamOf l G ad o (k, s0, s1, mp, md) st q14_1) (cwV 1 hts gX6_groupItem_X6_streamOf rfl rfl rfl (by decide +kernel) ⟨Nat.le_of_ble_eq_true rfl, Nat.le_of_ble_eq_true rfl⟩) hP hY rfl rfl rfl hl.1 rfl (lv_room (Nat.le_of_ble_eq_true rfl)) dX6_groupItem_14 ⟨Nat.zero_le _, Nat.zero_le _⟩ ?_
    refine lv_iload_n hx hb dX6_groupItem_17 rfl (lv_at hl 2 rfl) ?_
    by_cases q18_17 : gr = 0
    · have hQ18 := va_P.subm (u := wStr G ad (o+32) s1) (fun q h => by simp only [wRR, List.mem_cons, List.mem_append, h, true_or, or_true]) hP
      refine rdV (w0 := (wStr G ad (o+32) s1)) (As := [.int gr]) (rest := []) CF (k_X5_groupOf l G ad (o+32) s1 gr) (cwV 1 hts gX6_groupItem_X5_groupOf rfl rfl rfl (by decide +kernel) ⟨Nat.le_of_ble_eq_true rfl, Nat.le_of_ble_eq_true rfl⟩) hQ18 hY rfl rfl rfl hl.1 rfl (lv_room (Nat.le_of_ble_eq_true rfl)) dX6_groupItem_18 ⟨Nat.zero_le _, Nat.zero_le _⟩ ?_
      rw [show grpRef ad (o+32) gr = ad (o+32+4) from (by simp only [grpRef, q14_1, eq_true q18_17, ↓reduceIte])]
      have hQ19 := va_P.subm (u := wGrp G ad (o+32+4) s1.2.2.2.2.1) (fun q h => by simp only [wStr, wRR, List.mem_cons, List.mem_append, h, true_or, or_true]) hP
      refine va_getN (D := G.1) (ci := 2) (v := .ref (ad (o+32+4+1))) (C := RX2) (T := TX2) (N := 2) hx hb hts hiX2 hown hY.1 hQ19 0 rfl rfl 0 (by decide) (va_Nw.use rfl (hY.2.1 (.fieldLinkNest RX6 95 RX2 "reservoir" "LReservoirReed$Reservoir;" RX6) (List.mem_of_getElem? (i := 16) rfl))) (fun _ h9 => h9) rfl dX6_groupItem_21 ?_
      refine lv_astore (lv' := [(4, .ref (ad (o+32+4+1))), (0, .ref (ad o)), (1, .int st), (2, .int gr), (3, .int sl)]) hx hb dX6_groupItem_24 hl (by decide) rfl (fun ls hl => ?_)
      refine lv_iload_n hx hb dX6_groupItem_26 rfl (lv_at hl 4 rfl) ?_
      refine lv_aload hx hb dX6_groupItem_27 (lv_at hl 0 rfl) ?_
      have hQ20 := va_P.subm (u := wRes G ad (o+32+4+1) s1.2.2.2.2.1.2) (fun q h => by simp only [wGrp, wStr, wRR, List.mem_cons, List.mem_append, h, true_or, or_true]) hP
      refine rdV (w0 := (wRes G ad (o+32+4+1) s1.2.2.2.2.1.2)) (As := []) (rest := [.int sl]) CF (k_X4_filled l G ad (o+32+4+1) s1.2.2.2.2.1.2) (cwV 0 hts gX6_groupItem_X4_filled rfl rfl rfl (by decide +kernel) ⟨Nat.le_of_ble_eq_true rfl, Nat.le_of_ble_eq_true rfl⟩) hQ20 hY rfl rfl rfl hl.1 rfl (lv_room (Nat.le_of_ble_eq_true rfl)) dX6_groupItem_29 ⟨Nat.zero_le _, Nat.zero_le _⟩ ?_
      refine noS0 (As := [.int sl, .int (resFilled s1.2.2.2.2.1.2)]) (rest := []) CF (kn_X6_checkPlace l hl0 G sl (resFilled s1.2.2.2.2.1.2) (by simpa only [rrStr, strGrp, q14_1, eq_true q18_17, ↓reduceIte] using hs)) (va_cwS 2 hts gX6_groupItem_X6_checkPlace rfl rfl rfl (by decide +kernel) ⟨Nat.le_of_ble_eq_true rfl, Nat.le_of_ble_eq_true rfl⟩) hP hD hS hA hY hZ rfl hl.1 rfl (lv_room (Nat.le_of_ble_eq_true rfl)) dX6_groupItem_32 ⟨Nat.le_of_ble_eq_true rfl, Nat.le_of_ble_eq_true rfl⟩ (fun ce q9 H locs hP hD hS hce hcv hcl hgr => ?_)
      exact no_out ht hlk hce hcv hcl hgr hS hP (by first | with_reducible rfl | (simp only [rrStr, strGrp, sld_eq, q14_1, eq_true q18_17, ↓reduceIte]; done))
    · by_cases q18_21 : gr = 1
      · have hQ22 := va_P.subm (u := wStr G ad (o+32) s1) (fun q h => by simp only [wRR, List.mem_cons, List.mem_append, h, true_or, or_true]) hP
        refine rdV (w0 := (wStr G ad (o+32) s1)) (As := [.int gr]) (rest := []) CF (k_X5_groupOf l G ad (o+32) s1 gr) (cwV 1 hts gX6_groupItem_X5_groupOf rfl rfl rfl (by decide +kernel) ⟨Nat.le_of_ble_eq_true rfl, Nat.le_of_ble_eq_true rfl⟩) hQ22 hY rfl rfl rfl hl.1 rfl (lv_room (Nat.le_of_ble_eq_true rfl)) dX6_groupItem_18 ⟨Nat.zero_le _, Nat.zero_le _⟩ ?_
        rw [show grpRef ad (o+32) gr = ad (o+32+8) from (by simp only [grpRef, q14_1, q18_17, eq_true q18_21, ↓reduceIte])]
        have hQ23 := va_P.subm (u := wGrp G ad (o+32+8) s1.2.2.2.2.2.1) (fun q h => by simp only [wStr, wRR, List.mem_cons, List.mem_append, h, true_or, or_true]) hP
        refine va_getN (D := G.1) (ci := 2) (v := .ref (ad (o+32+8+1))) (C := RX2) (T := TX2) (N := 2) hx hb hts hiX2 hown hY.1 hQ23 0 rfl rfl 0 (by decide) (va_Nw.use rfl (hY.2.1 (.fieldLinkNest RX6 95 RX2 "reservoir" "LReservoirReed$Reservoir;" RX6) (List.mem_of_getElem? (i := 16) rfl))) (fun _ h9 => h9) rfl dX6_groupItem_21 ?_
        refine lv_astore (lv' := [(4, .ref (ad (o+32+8+1))), (0, .ref (ad o)), (1, .int st), (2, .int gr), (3, .int sl)]) hx hb dX6_groupItem_24 hl (by decide) rfl (fun ls hl => ?_)
        refine lv_iload_n hx hb dX6_groupItem_26 rfl (lv_at hl 4 rfl) ?_
        refine lv_aload hx hb dX6_groupItem_27 (lv_at hl 0 rfl) ?_
        have hQ24 := va_P.subm (u := wRes G ad (o+32+8+1) s1.2.2.2.2.2.1.2) (fun q h => by simp only [wGrp, wStr, wRR, List.mem_cons, List.mem_append, h, true_or, or_true]) hP
        refine rdV (w0 := (wRes G ad (o+32+8+1) s1.2.2.2.2.2.1.2)) (As := []) (rest := [.int sl]) CF (k_X4_filled l G ad (o+32+8+1) s1.2.2.2.2.2.1.2) (cwV 0 hts gX6_groupItem_X4_filled rfl rfl rfl (by decide +kernel) ⟨Nat.le_of_ble_eq_true rfl, Nat.le_of_ble_eq_true rfl⟩) hQ24 hY rfl rfl rfl hl.1 rfl (lv_room (Nat.le_of_ble_eq_true rfl)) dX6_groupItem_29 ⟨Nat.zero_le _, Nat.zero_le _⟩ ?_
        refine noS0 (As := [.int sl, .int (resFilled s1.2.2.2.2.2.1.2)]) (rest := []) CF (kn_X6_checkPlace l hl0 G sl (resFilled s1.2.2.2.2.2.1.2) (by simpa only [rrStr, strGrp, q14_1, q18_17, eq_true q18_21, ↓reduceIte] using hs)) (va_cwS 2 hts gX6_groupItem_X6_checkPlace rfl rfl rfl (by decide +kernel) ⟨Nat.le_of_ble_eq_true rfl, Nat.le_of_ble_eq_true rfl⟩) hP hD hS hA hY hZ rfl hl.1 rfl (lv_room (Nat.le_of_ble_eq_true rfl)) dX6_groupItem_32 ⟨Nat.le_of_ble_eq_true rfl, Nat.le_of_ble_eq_true rfl⟩ (fun ce q9 H locs hP hD hS hce hcv hcl hgr => ?_)
        exact no_out ht hlk hce hcv hcl hgr hS hP (by first | with_reducible rfl | (simp only [rrStr, strGrp, sld_eq, q14_1, q18_17, eq_true q18_21, ↓reduceIte]; done))
      · by_cases q18_25 : gr = 2
        · have hQ26 := va_P.subm (u := wStr G ad (o+32) s1) (fun q h => by simp only [wRR, List.mem_cons, List.mem_append, h, true_or, or_true]) hP
          refine rdV (w0 := (wStr G ad (o+32) s1)) (As := [.int gr]) (rest := []) CF (k_X5_groupOf l G ad (o+32) s1 gr) (cwV 1 hts gX6_groupItem_X5_groupOf rfl rfl rfl (by decide +kernel) ⟨Nat.le_of_ble_eq_true rfl, Nat.le_of_ble_eq_true rfl⟩) hQ26 hY rfl rfl rfl hl.1 rfl (lv_room (Nat.le_of_ble_eq_true rfl)) dX6_groupItem_18 ⟨Nat.zero_le _, Nat.zero_le _⟩ ?_
          rw [show grpRef ad (o+32) gr = ad (o+32+12) from (by simp only [grpRef, q14_1, q18_17, q18_21, eq_true q18_25, ↓reduceIte])]
          have hQ27 := va_P.subm (u := wGrp G ad (o+32+12) s1.2.2.2.2.2.2.1) (fun q h => by simp only [wStr, wRR, List.mem_cons, List.mem_append, h, true_or, or_true]) hP
          refine va_getN (D := G.1) (ci := 2) (v := .ref (ad (o+32+12+1))) (C := RX2) (T := TX2) (N := 2) hx hb hts hiX2 hown hY.1 hQ27 0 rfl rfl 0 (by decide) (va_Nw.use rfl (hY.2.1 (.fieldLinkNest RX6 95 RX2 "reservoir" "LReservoirReed$Reservoir;" RX6) (List.mem_of_getElem? (i := 16) rfl))) (fun _ h9 => h9) rfl dX6_groupItem_21 ?_
          refine lv_astore (lv' := [(4, .ref (ad (o+32+12+1))), (0, .ref (ad o)), (1, .int st), (2, .int gr), (3, .int sl)]) hx hb dX6_groupItem_24 hl (by decide) rfl (fun ls hl => ?_)
          refine lv_iload_n hx hb dX6_groupItem_26 rfl (lv_at hl 4 rfl) ?_
          refine lv_aload hx hb dX6_groupItem_27 (lv_at hl 0 rfl) ?_
          have hQ28 := va_P.subm (u := wRes G ad (o+32+12+1) s1.2.2.2.2.2.2.1.2) (fun q h => by simp only [wGrp, wStr, wRR, List.mem_cons, List.mem_append, h, true_or, or_true]) hP
          refine rdV (w0 := (wRes G ad (o+32+12+1) s1.2.2.2.2.2.2.1.2)) (As := []) (rest := [.int sl]) CF (k_X4_filled l G ad (o+32+12+1) s1.2.2.2.2.2.2.1.2) (cwV 0 hts gX6_groupItem_X4_filled rfl rfl rfl (by decide +kernel) ⟨Nat.le_of_ble_eq_true rfl, Nat.le_of_ble_eq_true rfl⟩) hQ28 hY rfl rfl rfl hl.1 rfl (lv_room (Nat.le_of_ble_eq_true rfl)) dX6_groupItem_29 ⟨Nat.zero_le _, Nat.zero_le _⟩ ?_
          refine noS0 (As := [.int sl, .int (resFilled s1.2.2.2.2.2.2.1.2)]) (rest := []) CF (kn_X6_checkPlace l hl0 G sl (resFilled s1.2.2.2.2.2.2.1.2) (by simpa only [rrStr, strGrp, q14_1, q18_17, q18_21, eq_true q18_25, ↓reduceIte] using hs)) (va_cwS 2 hts gX6_groupItem_X6_checkPlace rfl rfl rfl (by decide +kernel) ⟨Nat.le_of_ble_eq_true rfl, Nat.le_of_ble_eq_true rfl⟩) hP hD hS hA hY hZ rfl hl.1 rfl (lv_room (Nat.le_of_ble_eq_true rfl)) dX6_groupItem_32 ⟨Nat.le_of_ble_eq_true rfl, Nat.le_of_ble_eq_true rfl⟩ (fun ce q9 H locs hP hD hS hce hcv hcl hgr => ?_)
          exact no_out ht hlk hce hcv hcl hgr hS hP (by first | with_reducible rfl | (simp only [rrStr, strGrp, sld_eq, q14_1, q18_17, q18_21, eq_true q18_25, ↓reduceIte]; done))
        · have hQ29 := va_P.subm (u := wStr G ad (o+32) s1) (fun q h => by simp only [wRR, List.mem_cons, List.mem_append, h, true_or, or_true]) hP
          refine rdV (w0 := (wStr G ad (o+32) s1)) (As := [.int gr]) (rest := []) CF (k_X5_groupOf l G ad (o+32) s1 gr) (cwV 1 hts gX6_groupItem_X5_groupOf rfl rfl rfl (by decide +kernel) ⟨Nat.le_of_ble_eq_true rfl, Nat.le_of_ble_eq_true rfl⟩) hQ29 hY rfl rfl rfl hl.1 rfl (lv_room (Nat.le_of_ble_eq_true rfl)) dX6_groupItem_18 ⟨Nat.zero_le _, Nat.zero_le _⟩ ?_
          rw [show grpRef ad (o+32) gr = ad (o+32+16) from (by simp only [grpRef, q14_1, q18_17, q18_21, q18_25, ↓reduceIte])]
          have hQ30 := va_P.subm (u := wGrp G ad (o+32+16) s1.2.2.2.2.2.2.2.1) (fun q h => by simp only [wStr, wRR, List.mem_cons, List.mem_append, h, true_or, or_true]) hP
          refine va_getN (D := G.1) (ci := 2) (v := .ref (ad (o+32+16+1))) (C := RX2) (T := TX2) (N := 2) hx hb hts hiX2 hown hY.1 hQ30 0 rfl rfl 0 (by decide) (va_Nw.use rfl (hY.2.1 (.fieldLinkNest RX6 95 RX2 "reservoir" "LReservoirReed$Reservoir;" RX6) (List.mem_of_getElem? (i := 16) rfl))) (fun _ h9 => h9) rfl dX6_groupItem_21 ?_
          refine lv_astore (lv' := [(4, .ref (ad (o+32+16+1))), (0, .ref (ad o)), (1, .int st), (2, .int gr), (3, .int sl)]) hx hb dX6_groupItem_24 hl (by decide) rfl (fun ls hl => ?_)
          refine lv_iload_n hx hb dX6_groupItem_26 rfl (lv_at hl 4 rfl) ?_
          refine lv_aload hx hb dX6_groupItem_27 (lv_at hl 0 rfl) ?_
          have hQ31 := va_P.subm (u := wRes G ad (o+32+16+1) s1.2.2.2.2.2.2.2.1.2) (fun q h => by simp only [wGrp, wStr, wRR, List.mem_cons, List.mem_append, h, true_or, or_true]) hP
          refine rdV (w0 := (wRes G ad (o+32+16+1) s1.2.2.2.2.2.2.2.1.2)) (As := []) (rest := [.int sl]) CF (k_X4_filled l G ad (o+32+16+1) s1.2.2.2.2.2.2.2.1.2) (cwV 0 hts gX6_groupItem_X4_filled rfl rfl rfl (by decide +kernel) ⟨Nat.le_of_ble_eq_true rfl, Nat.le_of_ble_eq_true rfl⟩) hQ31 hY rfl rfl rfl hl.1 rfl (lv_room (Nat.le_of_ble_eq_true rfl)) dX6_groupItem_29 ⟨Nat.zero_le _, Nat.zero_le _⟩ ?_
          refine noS0 (As := [.int sl, .int (resFilled s1.2.2.2.2.2.2.2.1.2)]) (rest := []) CF (kn_X6_checkPlace l hl0 G sl (resFilled s1.2.2.2.2.2.2.2.1.2) (by simpa only [rrStr, strGrp, q14_1, q18_17, q18_21, q18_25, ↓reduceIte] using hs)) (va_cwS 2 hts gX6_groupItem_X6_checkPlace rfl rfl rfl (by decide +kernel) ⟨Nat.le_of_ble_eq_true rfl, Nat.le_of_ble_eq_true rfl⟩) hP hD hS hA hY hZ rfl hl.1 rfl (lv_room (Nat.le_of_ble_eq_true rfl)) dX6_groupItem_32 ⟨Nat.le_of_ble_eq_true rfl, Nat.le_of_ble_eq_true rfl⟩ (fun ce q9 H locs hP hD hS hce hcv hcl hgr => ?_)
          exact no_out ht hlk hce hcv hcl hgr hS hP (by first | with_reducible rfl | (simp only [rrStr, strGrp, sld_eq, q14_1, q18_17, q18_21, q18_25, ↓reduceIte]; done))
