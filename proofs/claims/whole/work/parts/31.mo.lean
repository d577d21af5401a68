set_option maxHeartbeats 4000000 in
set_option maxRecDepth 100000 in
theorem k_X7_in (l : Launch) (G : GT) (v lo hi : Int32) (hk : okA v lo hi) : Rd l yX7_in wsX7_in { frames := 0, cells := 0, slots := 0, locals := 0 } G ([] : va_W) [.int v, .int lo, .int hi] (.int 1) := by
  refine Met.ofW (cc := cX7_in) (maxL := 3) (ret := (some .boolean)) (by decide) rfl ?_
  intro p e s m args below meth c s₁ B hml hv
  obtain ⟨rfl, hP, hY⟩ := hv
  have hx := B.exec
  have hb := B.bytes
  have hr := B.returns
  have hts := atoms_spec (ws := wsX7_in) B.pre
  have hown : s.vm.findClass RX7 = some m.cls := findClass_of_methodNamed B.named
  have hlk := B.notSynchronized
  have CF : CallFix p m c cX7_in 3 s _ wsX7_in RX7 := ⟨hx, hb, hml, hown, hts⟩
  have hl := lv_entry ([.int v, .int lo, .int hi]) (n := 3) (Nat.le_of_ble_eq_true rfl)
  rw [lg_entry_eq]
  generalize (lg_sl ([.int v, .int lo, .int hi]) ++ List.replicate (3 - (lg_sl ([.int v, .int lo, .int hi])).length) Slot.unset).toArray = ls at hl ⊢
  have hl : lv_has ls 3 [(0, .int v), (1, .int lo), (2, .int hi)] := hl
  refine lv_iload_n hx hb dX7_in_0 rfl (lv_at hl 0 rfl) ?_
  refine lv_iload_n hx hb dX7_in_1 rfl (lv_at hl 1 rfl) ?_
  refine lv_icmp_lt (tgt := 14) hx hb dX7_in_2 (by decide) (fun h2_1 => ?_) (fun h2_1 => ?_)
  · exact absurd h2_1 hk.1
  · refine lv_iload_n hx hb dX7_in_5 rfl (lv_at hl 0 rfl) ?_
    refine lv_iload_n hx hb dX7_in_6 rfl (lv_at hl 2 rfl) ?_
    refine lv_icmp_gt (tgt := 14) hx hb dX7_in_7 (by decide) (fun h7_2 => ?_) (fun h7_2 => ?_)
    · exact absurd h7_2 (nlt_of_le hk.2)
    · refine lv_iconst (v := 1) hx hb dX7_in_10 (by decide) ?_
      refine lv_goto (tgt := 15) hx hb dX7_in_11 (by decide) ?_
      exact rd_zret hx hb hr hlk (by first | with_reducible rfl | (simp only [sld_eq, h2_1, h7_2, ↓reduceIte]; done)) rfl dX7_in_15

set_option maxHeartbeats 4000000 in
set_option maxRecDepth 100000 in
theorem kn_X7_in (l : Launch) (G : GT) (v lo hi : Int32) (hk : ¬ okA v lo hi) : Rd l yX7_in wsX7_in { frames := 0, cells := 0, slots := 0, locals := 0 } G ([] : va_W) [.int v, .int lo, .int hi] (.int 0) := by
  refine Met.ofW (cc := cX7_in) (maxL := 3) (ret := (some .boolean)) (by decide) rfl ?_
  intro p e s m args below meth c s₁ B hml hv
  obtain ⟨rfl, hP, hY⟩ := hv
  have hx := B.exec
  have hb := B.bytes
  have hr := B.returns
  have hts := atoms_spec (ws := wsX7_in) B.pre
  have hown : s.vm.findClass RX7 = some m.cls := findClass_of_methodNamed B.named
  have hlk := B.notSynchronized
  have CF : CallFix p m c cX7_in 3 s _ wsX7_in RX7 := ⟨hx, hb, hml, hown, hts⟩
  have hl := lv_entry ([.int v, .int lo, .int hi]) (n := 3) (Nat.le_of_ble_eq_true rfl)
  rw [lg_entry_eq]
  generalize (lg_sl ([.int v, .int lo, .int hi]) ++ List.replicate (3 - (lg_sl ([.int v, .int lo, .int hi])).length) Slot.unset).toArray = ls at hl ⊢
  have hl : lv_has ls 3 [(0, .int v), (1, .int lo), (2, .int hi)] := hl
  refine lv_iload_n hx hb dX7_in_0 rfl (lv_at hl 0 rfl) ?_
  refine lv_iload_n hx hb dX7_in_1 rfl (lv_at hl 1 rfl) ?_
  refine lv_icmp_lt (tgt := 14) hx hb dX7_in_2 (by decide) (fun h2_1 => ?_) (fun h2_1 => ?_)
  · refine lv_iconst (v := 0) hx hb dX7_in_14 (by decide) ?_
    exact rd_zret hx hb hr hlk (by first | with_reducible rfl | (simp only [sld_eq, h2_1, ↓reduceIte]; done)) rfl dX7_in_15
  · refine lv_iload_n hx hb dX7_in_5 rfl (lv_at hl 0 rfl) ?_
    refine lv_iload_n hx hb dX7_in_6 rfl (lv_at hl 2 rfl) ?_
    refine lv_icmp_gt (tgt := 14) hx hb dX7_in_7 (by decide) (fun h7_2 => ?_) (fun h7_2 => ?_)
    · refine lv_iconst (v := 0) hx hb dX7_in_14 (by decide) ?_
      exact rd_zret hx hb hr hlk (by first | with_reducible rfl | (simp only [sld_eq, h2_1, h7_2, ↓reduceIte]; done)) rfl dX7_in_15
    · exact absurd ⟨h2_1, le_of_nlt h7_2⟩ hk

set_option maxHeartbeats 4000000 in
set_option maxRecDepth 100000 in
theorem k0_X7_refused (l : Launch) (G : GT) (ad : Nat → Nat) (o : Nat) (r : MoT) (wh : Int32) (hw : wh = 0) : Wr l yX7_refused wsX7_refused { frames := 0, cells := 0, slots := 0, locals := 0 } G (wMo G ad o r) (wMo G ad o (wh, r.2)) [.ref (ad o), .int wh] (some (.int 0)) := by
  intro sz
  refine Met.ofW (cc := cX7_refused) (maxL := 2) (ret := (some .boolean)) (by decide) rfl ?_
  intro p e s m args below meth c s₁ B hml hv
  obtain ⟨rfl, hsz, hP, hY, hD0⟩ := hv
  subst hsz
  have hD := hD0.self (sz := s.heap.size)
  generalize hAe : va_A (wMo G ad o r) s.heap.size = A at hD ⊢
  have hA : ∀ q : Nat, s.heap.size ≤ q → A q := fun q h => by rw [← hAe]; exact Or.inr h
  have hS : va_S A s.heap s.heap [] := va_S.rf
  have hx := B.exec
  have hb := B.bytes
  have hr := B.returns
  have hts := atoms_spec (ws := wsX7_refused) B.pre
  have hown : s.vm.findClass RX7 = some m.cls := findClass_of_methodNamed B.named
  have hlk := B.notSynchronized
  have CF : CallFix p m c cX7_refused 2 s _ wsX7_refused RX7 := ⟨hx, hb, hml, hown, hts⟩
  have hiX7 : ∀ w ∈ wsX70, w ∈ wsX7_refused := fun w h => (List.mem_cons_of_mem _ (List.mem_append_right _ h))
  have kf42 := hts (.fieldLink RX7 42 "ReservoirReedModel" "refusal" "I") (List.mem_cons_of_mem _ (List.mem_append_left _ (List.mem_of_getElem? (i := 0) rfl)))
  have hl := lv_entry ([.ref (ad o), .int wh]) (n := 2) (Nat.le_of_ble_eq_true rfl)
  rw [lg_entry_eq]
  generalize (lg_sl ([.ref (ad o), .int wh]) ++ List.replicate (2 - (lg_sl ([.ref (ad o), .int wh])).length) Slot.unset).toArray = ls at hl ⊢
  have hl : lv_has ls 2 [(0, .ref (ad o)), (1, .int wh)] := hl
  refine lv_aload_n hx hb dX7_refused_0 rfl (lv_at hl 0 rfl) ?_
  refine lv_iload_n hx hb dX7_refused_1 rfl (lv_at hl 1 rfl) ?_
  refine va_put (D := G.1) (ci := 7) (v := .int wh) (ty := .int) (C := RX7) (T := TX7) (N := 13) hx hb hts hiX7 tyX7 tyX7_ok nmX7 hown hY.1 hP hD hS 0 rfl rfl 0 (by decide) kf42 (fun _ h9 => h9) rfl (by decide +kernel) rfl rfl (Nat.le_of_ble_eq_true rfl) dX7_refused_2 (fun H locs hP hD hS => ?_)
  have hP : va_P G.1 vwCl (wMo G ad o (wh, r.2.1, r.2.2.1, r.2.2.2.1, r.2.2.2.2.1, r.2.2.2.2.2.1, r.2.2.2.2.2.2.1, r.2.2.2.2.2.2.2.1, r.2.2.2.2.2.2.2.2.1, r.2.2.2.2.2.2.2.2.2.1, r.2.2.2.2.2.2.2.2.2.2.1, r.2.2.2.2.2.2.2.2.2.2.2.1, r.2.2.2.2.2.2.2.2.2.2.2.2)) H := hP
  have hD : va_D A (wMo G ad o (wh, r.2.1, r.2.2.1, r.2.2.2.1, r.2.2.2.2.1, r.2.2.2.2.2.1, r.2.2.2.2.2.2.1, r.2.2.2.2.2.2.2.1, r.2.2.2.2.2.2.2.2.1, r.2.2.2.2.2.2.2.2.2.1, r.2.2.2.2.2.2.2.2.2.2.1, r.2.2.2.2.2.2.2.2.2.2.2.1, r.2.2.2.2.2.2.2.2.2.2.2.2)) := hD
  refine lv_iload_n hx hb dX7_refused_5 rfl (lv_at hl 1 rfl) ?_
  refine lv_if_eq (tgt := 13) hx hb dX7_refused_6 (by decide) (fun h6_1 => ?_) (fun h6_1 => ?_)
  · refine lv_iconst (v := 0) hx hb dX7_refused_13 (by decide) ?_
    exact wr_zret hx hb hr hlk hS hP (by first | with_reducible rfl | (simp only [sld_eq, eq_true h6_1, ↓reduceIte]; done)) (by first | with_reducible rfl | (simp only [sld_eq, eq_true h6_1, ↓reduceIte]; done)) rfl dX7_refused_14
  · exact absurd hw h6_1

set_option maxHeartbeats 4000000 in
set_option maxRecDepth 100000 in
theorem k1_X7_refused (l : Launch) (G : GT) (ad : Nat → Nat) (o : Nat) (r : MoT) (wh : Int32) (hw : ¬ wh = 0) : Wr l yX7_refused wsX7_refused { frames := 0, cells := 0, slots := 0, locals := 0 } G (wMo G ad o r) (wMo G ad o (wh, r.2)) [.ref (ad o), .int wh] (some (.int 1)) := by
  intro sz
  refine Met.ofW (cc := cX7_refused) (maxL := 2) (ret := (some .boolean)) (by decide) rfl ?_
  intro p e s m args below meth c s₁ B hml hv
  obtain ⟨rfl, hsz, hP, hY, hD0⟩ := hv
  subst hsz
  have hD := hD0.self (sz := s.heap.size)
  generalize hAe : va_A (wMo G ad o r) s.heap.size = A at hD ⊢
  have hA : ∀ q : Nat, s.heap.size ≤ q → A q := fun q h => by rw [← hAe]; exact Or.inr h
  have hS : va_S A s.heap s.heap [] := va_S.rf
  have hx := B.exec
  have hb := B.bytes
  have hr := B.returns
  have hts := atoms_spec (ws := wsX7_refused) B.pre
  have hown : s.vm.findClass RX7 = some m.cls := findClass_of_methodNamed B.named
  have hlk := B.notSynchronized
  have CF : CallFix p m c cX7_refused 2 s _ wsX7_refused RX7 := ⟨hx, hb, hml, hown, hts⟩
  have hiX7 : ∀ w ∈ wsX70, w ∈ wsX7_refused := fun w h => (List.mem_cons_of_mem _ (List.mem_append_right _ h))
  have kf42 := hts (.fieldLink RX7 42 "ReservoirReedModel" "refusal" "I") (List.mem_cons_of_mem _ (List.mem_append_left _ (List.mem_of_getElem? (i := 0) rfl)))
  have hl := lv_entry ([.ref (ad o), .int wh]) (n := 2) (Nat.le_of_ble_eq_true rfl)
  rw [lg_entry_eq]
  generalize (lg_sl ([.ref (ad o), .int wh]) ++ List.replicate (2 - (lg_sl ([.ref (ad o), .int wh])).length) Slot.unset).toArray = ls at hl ⊢
  have hl : lv_has ls 2 [(0, .ref (ad o)), (1, .int wh)] := hl
  refine lv_aload_n hx hb dX7_refused_0 rfl (lv_at hl 0 rfl) ?_
  refine lv_iload_n hx hb dX7_refused_1 rfl (lv_at hl 1 rfl) ?_
  refine va_put (D := G.1) (ci := 7) (v := .int wh) (ty := .int) (C := RX7) (T := TX7) (N := 13) hx hb hts hiX7 tyX7 tyX7_ok nmX7 hown hY.1 hP hD hS 0 rfl rfl 0 (by decide) kf42 (fun _ h9 => h9) rfl (by decide +kernel) rfl rfl (Nat.le_of_ble_eq_true rfl) dX7_refused_2 (fun H locs hP hD hS => ?_)
  have hP : va_P G.1 vwCl (wMo G ad o (wh, r.2.1, r.2.2.1, r.2.2.2.1, r.2.2.2.2.1, r.2.2.2.2.2.1, r.2.2.2.2.2.2.1, r.2.2.2.2.2.2.2.1, r.2.2.2.2.2.2.2.2.1, r.2.2.2.2.2.2.2.2.2.1, r.2.2.2.2.2.2.2.2.2.2.1, r.2.2.2.2.2.2.2.2.2.2.2.1, r.2.2.2.2.2.2.2.2.2.2.2.2)) H := hP
  have hD : va_D A (wMo G ad o (wh, r.2.1, r.2.2.1, r.2.2.2.1, r.2.2.2.2.1, r.2.2.2.2.2.1, r.2.2.2.2.2.2.1, r.2.2.2.2.2.2.2.1, r.2.2.2.2.2.2.2.2.1, r.2.2.2.2.2.2.2.2.2.1, r.2.2.2.2.2.2.2.2.2.2.1, r.2.2.2.2.2.2.2.2.2.2.2.1, r.2.2.2.2.2.2.2.2.2.2.2.2)) := hD
  refine lv_iload_n hx hb dX7_refused_5 rfl (lv_at hl 1 rfl) ?_
  refine lv_if_eq (tgt := 13) hx hb dX7_refused_6 (by decide) (fun h6_1 => ?_) (fun h6_1 => ?_)
  · exact absurd h6_1 hw
  · refine lv_iconst (v := 1) hx hb dX7_refused_9 (by decide) ?_
    refine lv_goto (tgt := 14) hx hb dX7_refused_10 (by decide) ?_
    exact wr_zret hx hb hr hlk hS hP (by first | with_reducible rfl | (simp only [sld_eq, h6_1, ↓reduceIte]; done)) (by first | with_reducible rfl | (simp only [sld_eq, h6_1, ↓reduceIte]; done)) rfl dX7_refused_14

set_option maxHeartbeats 4000000 in
set_option maxRecDepth 100000 in
theorem k_X7_noStream (l : Launch) (G : GT) (ad : Nat → Nat) (o : Nat) (r : MoT) (st la : Int32) (hk : okA st 0 la) : Wr l yX7_noStream wsX7_noStream { frames := 1, cells := 0, slots := 0, locals := 22 } G (wMo G ad o r) (wMo G ad o (0, r.2)) [.ref (ad o), .int st, .int la] (some (.int 0)) := by
  intro sz
  refine Met.ofW (cc := cX7_noStream) (maxL := 3) (ret := (some .boolean)) (by decide) rfl ?_
  intro p e s m args below meth c s₁ B hml hv
  obtain ⟨rfl, hsz, hP, hY, hD0⟩ := hv
  subst hsz
  have hD := hD0.self (sz := s.heap.size)
  generalize hAe : va_A (wMo G ad o r) s.heap.size = A at hD ⊢
  have hA : ∀ q : Nat, s.heap.size ≤ q → A q := fun q h => by rw [← hAe]; exact Or.inr h
  have hS : va_S A s.heap s.heap [] := va_S.rf
  have hx := B.exec
  have hb := B.bytes
  have hr := B.returns
  have hts := atoms_spec (ws := wsX7_noStream) B.pre
  have hown : s.vm.findClass RX7 = some m.cls := findClass_of_methodNamed B.named
  have hlk := B.notSynchronized
  have CF : CallFix p m c cX7_noStream 3 s _ wsX7_noStream RX7 := ⟨hx, hb, hml, hown, hts⟩
  have hl := lv_entry ([.ref (ad o), .int st, .int la]) (n := 3) (Nat.le_of_ble_eq_true rfl)
  rw [lg_entry_eq]
  generalize (lg_sl ([.ref (ad o), .int st, .int la]) ++ List.replicate (3 - (lg_sl ([.ref (ad o), .int st, .int la])).length) Slot.unset).toArray = ls at hl ⊢
  have hl : lv_has ls 3 [(0, .ref (ad o)), (1, .int st), (2, .int la)] := hl
  refine lv_aload_n hx hb dX7_noStream_0 rfl (lv_at hl 0 rfl) ?_
  refine lv_iload_n hx hb dX7_noStream_1 rfl (lv_at hl 1 rfl) ?_
  refine lv_iconst (v := 0) hx hb dX7_noStream_2 (by decide) ?_
  refine lv_iload_n hx hb dX7_noStream_3 rfl (lv_at hl 2 rfl) ?_
  refine rdS (w0 := ([] : va_W)) (As := [.int st, .int 0, .int la]) (rest := [.ref (ad o)]) CF (k_X7_in l G st 0 la hk) (va_cwS 3 hts gX7_noStream_X7_in rfl rfl rfl (by decide +kernel) ⟨Nat.le_of_ble_eq_true rfl, Nat.le_of_ble_eq_true rfl⟩) va_P_nil hY rfl hl.1 rfl (lv_room (Nat.le_of_ble_eq_true rfl)) dX7_noStream_4 ⟨Nat.zero_le _, Nat.zero_le _⟩ ?_
  refine lv_if_eq (tgt := 14) hx hb dX7_noStream_7 (by decide) (fun h7_1 => ?_) (fun h7_1 => ?_)
  · exact absurd h7_1 (by decide)
  · refine lv_iconst (v := 0) hx hb dX7_noStream_10 (by decide) ?_
    refine lv_goto (tgt := 15) hx hb dX7_noStream_11 (by decide) ?_
    refine wrV [] (wMo G ad o r) [] (wMo G ad o (0, r.2)) (As := [.int 0]) (rest := []) CF (k0_X7_refused l G ad o r 0 rfl) (cwV 1 hts gX7_noStream_X7_refused rfl rfl rfl (by decide +kernel) ⟨Nat.le_of_ble_eq_true rfl, Nat.le_of_ble_eq_true rfl⟩) hP hD hS hA hY rfl rfl (fst_Mo _ _ _ _ _) rfl hl.1 rfl (lv_room (Nat.le_of_ble_eq_true rfl)) dX7_noStream_15 ⟨Nat.zero_le _, Nat.zero_le _⟩ (fun H locs hP hD hS => ?_)
    have hP : va_P G.1 vwCl (wMo G ad o (0, r.2)) H := hP
    have hD : va_D A (wMo G ad o (0, r.2)) := hD
    exact wr_zret hx hb hr hlk hS hP (by first | with_reducible rfl | (simp only [sld_eq, h7_1, ↓reduceIte]; done)) (by first | with_reducible rfl | (simp only [sld_eq, h7_1, ↓reduceIte]; done)) rfl dX7_noStream_18

set_option maxHeartbeats 4000000 in
set_option maxRecDepth 100000 in
theorem kn_X7_noStream (l : Launch) (G : GT) (ad : Nat → Nat) (o : Nat) (r : MoT) (st la : Int32) (hk : ¬ okA st 0 la) : Wr l yX7_noStream wsX7_noStream { frames := 1, cells := 0, slots := 0, locals := 22 } G (wMo G ad o r) (wMo G ad o (1, r.2)) [.ref (ad o), .int st, .int la] (some (.int 1)) := by
  intro sz
  refine Met.ofW (cc := cX7_noStream) (maxL := 3) (ret := (some .boolean)) (by decide) rfl ?_
  intro p e s m args below meth c s₁ B hml hv
  obtain ⟨rfl, hsz, hP, hY, hD0⟩ := hv
  subst hsz
  have hD := hD0.self (sz := s.heap.size)
  generalize hAe : va_A (wMo G ad o r) s.heap.size = A at hD ⊢
  have hA : ∀ q : Nat, s.heap.size ≤ q → A q := fun q h => by rw [← hAe]; exact Or.inr h
  have hS : va_S A s.heap s.heap [] := va_S.rf
  have hx := B.exec
  have hb := B.bytes
  have hr := B.returns
  have hts := atoms_spec (ws := wsX7_noStream) B.pre
  have hown : s.vm.findClass RX7 = some m.cls := findClass_of_methodNamed B.named
  have hlk := B.notSynchronized
  have CF : CallFix p m c cX7_noStream 3 s _ wsX7_noStream RX7 := ⟨hx, hb, hml, hown, hts⟩
  have hl := lv_entry ([.ref (ad o), .int st, .int la]) (n := 3) (Nat.le_of_ble_eq_true rfl)
  rw [lg_entry_eq]
  generalize (lg_sl ([.ref (ad o), .int st, .int la]) ++ List.replicate (3 - (lg_sl ([.ref (ad o), .int st, .int la])).length) Slot.unset).toArray = ls at hl ⊢
  have hl : lv_has ls 3 [(0, .ref (ad o)), (1, .int st), (2, .int la)] := hl
  refine lv_aload_n hx hb dX7_noStream_0 rfl (lv_at hl 0 rfl) ?_
  refine lv_iload_n hx hb dX7_noStream_1 rfl (lv_at hl 1 rfl) ?_
  refine lv_iconst (v := 0) hx hb dX7_noStream_2 (by decide) ?_
  refine lv_iload_n hx hb dX7_noStream_3 rfl (lv_at hl 2 rfl) ?_
  refine rdS (w0 := ([] : va_W)) (As := [.int st, .int 0, .int la]) (rest := [.ref (ad o)]) CF (kn_X7_in l G st 0 la hk) (va_cwS 3 hts gX7_noStream_X7_in rfl rfl rfl (by decide +kernel) ⟨Nat.le_of_ble_eq_true rfl, Nat.le_of_ble_eq_true rfl⟩) va_P_nil hY rfl hl.1 rfl (lv_room (Nat.le_of_ble_eq_true rfl)) dX7_noStream_4 ⟨Nat.zero_le _, Nat.zero_le _⟩ ?_
  refine lv_if_eq (tgt := 14) hx hb dX7_noStream_7 (by decide) (fun h7_1 => ?_) (fun h7_1 => ?_)
  · refine lv_iconst (v := 1) hx hb dX7_noStream_14 (by decide) ?_
    refine wrV [] (wMo G ad o r) [] (wMo G ad o (1, r.2)) (As := [.int 1]) (rest := []) CF (k1_X7_refused l G ad o r 1 (by decide)) (cwV 1 hts gX7_noStream_X7_refused rfl rfl rfl (by decide +kernel) ⟨Nat.le_of_ble_eq_true rfl, Nat.le_of_ble_eq_true rfl⟩) hP hD hS hA hY rfl rfl (fst_Mo _ _ _ _ _) rfl hl.1 rfl (lv_room (Nat.le_of_ble_eq_true rfl)) dX7_noStream_15 ⟨Nat.zero_le _, Nat.zero_le _⟩ (fun H locs hP hD hS => ?_)
    have hP : va_P G.1 vwCl (wMo G ad o (1, r.2)) H := hP
    have hD : va_D A (wMo G ad o (1, r.2)) := hD
    exact wr_zret hx hb hr hlk hS hP (by first | with_reducible rfl | (simp only [sld_eq, eq_true h7_1, ↓reduceIte]; done)) (by first | with_reducible rfl | (simp only [sld_eq, eq_true h7_1, ↓reduceIte]; done)) rfl dX7_noStream_18
  · exact absurd rfl h7_1

set_option maxHeartbeats 4000000 in
set_option maxRecDepth 100000 in
theorem k_X7_noGroup (l : Launch) (G : GT) (ad : Nat → Nat) (o : Nat) (r : MoT) (st la g : Int32) (hk : okA st 0 la) (h2 : okA g 0 3) : Wr l yX7_noGroup wsX7_noGroup { frames := 1, cells := 0, slots := 0, locals := 22 } G (wMo G ad o r) (wMo G ad o (0, r.2)) [.ref (ad o), .int st, .int la, .int g] (some (.int 0)) := by
  intro sz
  refine Met.ofW (cc := cX7_noGroup) (maxL := 4) (ret := (some .boolean)) (by decide) rfl ?_
  intro p e s m args below meth c s₁ B hml hv
  obtain ⟨rfl, hsz, hP, hY, hD0⟩ := hv
  subst hsz
  have hD := hD0.self (sz := s.heap.size)
  generalize hAe : va_A (wMo G ad o r) s.heap.size = A at hD ⊢
  have hA : ∀ q : Nat, s.heap.size ≤ q → A q := fun q h => by rw [← hAe]; exact Or.inr h
  have hS : va_S A s.heap s.heap [] := va_S.rf
  have hx := B.exec
  have hb := B.bytes
  have hr := B.returns
  have hts := atoms_spec (ws := wsX7_noGroup) B.pre
  have hown : s.vm.findClass RX7 = some m.cls := findClass_of_methodNamed B.named
  have hlk := B.notSynchronized
  have CF : CallFix p m c cX7_noGroup 4 s _ wsX7_noGroup RX7 := ⟨hx, hb, hml, hown, hts⟩
  have hl := lv_entry ([.ref (ad o), .int st, .int la, .int g]) (n := 4) (Nat.le_of_ble_eq_true rfl)
  rw [lg_entry_eq]
  generalize (lg_sl ([.ref (ad o), .int st, .int la, .int g]) ++ List.replicate (4 - (lg_sl ([.ref (ad o), .int st, .int la, .int g])).length) Slot.unset).toArray = ls at hl ⊢
  have hl : lv_has ls 4 [(0, .ref (ad o)), (1, .int st), (2, .int la), (3, .int g)] := hl
  refine lv_aload_n hx hb dX7_noGroup_0 rfl (lv_at hl 0 rfl) ?_
  refine lv_iload_n hx hb dX7_noGroup_1 rfl (lv_at hl 1 rfl) ?_
  refine lv_iconst (v := 0) hx hb dX7_noGroup_2 (by decide) ?_
  refine lv_iload_n hx hb dX7_noGroup_3 rfl (lv_at hl 2 rfl) ?_
  refine rdS (w0 := ([] : va_W)) (As := [.int st, .int 0, .int la]) (rest := [.ref (ad o)]) CF (k_X7_in l G st 0 la hk) (va_cwS 3 hts gX7_noGroup_X7_in rfl rfl rfl (by decide +kernel) ⟨Nat.le_of_ble_eq_true rfl, Nat.le_of_ble_eq_true rfl⟩) va_P_nil hY rfl hl.1 rfl (lv_room (Nat.le_of_ble_eq_true rfl)) dX7_noGroup_4 ⟨Nat.zero_le _, Nat.zero_le _⟩ ?_
  refine lv_if_eq (tgt := 23) hx hb dX7_noGroup_7 (by decide) (fun h7_1 => ?_) (fun h7_1 => ?_)
  · exact absurd h7_1 (by decide)
  · refine lv_iload_n hx hb dX7_noGroup_10 rfl (lv_at hl 3 rfl) ?_
    refine lv_iconst (v := 0) hx hb dX7_noGroup_11 (by decide) ?_
    refine lv_iconst (v := 3) hx hb dX7_noGroup_12 (by decide) ?_
    refine rdS (w0 := ([] : va_W)) (As := [.int g, .int 0, .int 3]) (rest := [.ref (ad o)]) CF (k_X7_in l G g 0 3 h2) (va_cwS 3 hts gX7_noGroup_X7_in rfl rfl rfl (by decide +kernel) ⟨Nat.le_of_ble_eq_true rfl, Nat.le_of_ble_eq_true rfl⟩) va_P_nil hY rfl hl.1 rfl (lv_room (Nat.le_of_ble_eq_true rfl)) dX7_noGroup_13 ⟨Nat.zero_le _, Nat.zero_le _⟩ ?_
    refine lv_if_eq (tgt := 23) hx hb dX7_noGroup_16 (by decide) (fun h16_2 => ?_) (fun h16_2 => ?_)
    · exact absurd h16_2 (by decide)
    · refine lv_iconst (v := 0) hx hb dX7_noGroup_19 (by decide) ?_
      refine lv_goto (tgt := 24) hx hb dX7_noGroup_20 (by decide) ?_
      refine wrV [] (wMo G ad o r) [] (wMo G ad o (0, r.2)) (As := [.int 0]) (rest := []) CF (k0_X7_refused l G ad o r 0 rfl) (cwV 1 hts gX7_noGroup_X7_refused rfl rfl rfl (by decide +kernel) ⟨Nat.le_of_ble_eq_true rfl, Nat.le_of_ble_eq_true rfl⟩) hP hD hS hA hY rfl rfl (fst_Mo _ _ _ _ _) rfl hl.1 rfl (lv_room (Nat.le_of_ble_eq_true rfl)) dX7_noGroup_24 ⟨Nat.zero_le _, Nat.zero_le _⟩ (fun H locs hP hD hS => ?_)
      have hP : va_P G.1 vwCl (wMo G ad o (0, r.2)) H := hP
      have hD : va_D A (wMo G ad o (0, r.2)) := hD
      exact wr_zret hx hb hr hlk hS hP (by first | with_reducible rfl | (simp only [sld_eq, h7_1, h16_2, ↓reduceIte]; done)) (by first | with_reducible rfl | (simp only [sld_eq, h7_1, h16_2, ↓reduceIte]; done)) rfl dX7_noGroup_27

set_option maxHeartbeats 4000000 in
set_option maxRecDepth 100000 in
theorem kn_X7_noGroup (l : Launch) (G : GT) (ad : Nat → Nat) (o : Nat) (r : MoT) (st la g : Int32) (hk : ¬ (okA st 0 la ∧ okA g 0 3)) : Wr l yX7_noGroup wsX7_noGroup { frames := 1, cells := 0, slots := 0, locals := 22 } G (wMo G ad o r) (wMo G ad o (1, r.2)) [.ref (ad o), .int st, .int la, .int g] (some (.int 1)) := by
  intro sz
  refine Met.ofW (cc := cX7_noGroup) (maxL := 4) (ret := (some .boolean)) (by decide) rfl ?_
  intro p e s m args below meth c s₁ B hml hv
  obtain ⟨rfl, hsz, hP, hY, hD0⟩ := hv
  subst hsz
  have hD := hD0.self (sz := s.heap.size)
  generalize hAe : va_A (wMo G ad o r) s.heap.size = A at hD ⊢
  have hA : ∀ q : Nat, s.heap.size ≤ q → A q := fun q h => by rw [← hAe]; exact Or.inr h
  have hS : va_S A s.heap s.heap [] := va_S.rf
  have hx := B.exec
  have hb := B.bytes
  have hr := B.returns
  have hts := atoms_spec (ws := wsX7_noGroup) B.pre
  have hown : s.vm.findClass RX7 = some m.cls := findClass_of_methodNamed B.named
  have hlk := B.notSynchronized
  have CF : CallFix p m c cX7_noGroup 4 s _ wsX7_noGroup RX7 := ⟨hx, hb, hml, hown, hts⟩
  have hl := lv_entry ([.ref (ad o), .int st, .int la, .int g]) (n := 4) (Nat.le_of_ble_eq_true rfl)
  rw [lg_entry_eq]
  generalize (lg_sl ([.ref (ad o), .int st, .int la, .int g]) ++ List.replicate (4 - (lg_sl ([.ref (ad o), .int st, .int la, .int g])).length) Slot.unset).toArray = ls at hl ⊢
  have hl : lv_has ls 4 [(0, .ref (ad o)), (1, .int st), (2, .int la), (3, .int g)] := hl
  refine lv_aload_n hx hb dX7_noGroup_0 rfl (lv_at hl 0 rfl) ?_
  refine lv_iload_n hx hb dX7_noGroup_1 rfl (lv_at hl 1 rfl) ?_
  refine lv_iconst (v := 0) hx hb dX7_noGroup_2 (by decide) ?_
  refine lv_iload_n hx hb dX7_noGroup_3 rfl (lv_at hl 2 rfl) ?_
  by_cases q4_1 : okA st 0 la
  · refine rdS (w0 := ([] : va_W)) (As := [.int st, .int 0, .int la]) (rest := [.ref (ad o)]) CF (k_X7_in l G st 0 la q4_1) (va_cwS 3 hts gX7_noGroup_X7_in rfl rfl rfl (by decide +kernel) ⟨Nat.le_of_ble_eq_true rfl, Nat.le_of_ble_eq_true rfl⟩) va_P_nil hY rfl hl.1 rfl (lv_room (Nat.le_of_ble_eq_true rfl)) dX7_noGroup_4 ⟨Nat.zero_le _, Nat.zero_le _⟩ ?_
    refine lv_if_eq (tgt := 23) hx hb dX7_noGroup_7 (by decide) (fun h7_2 => ?_) (fun h7_2 => ?_)
    · exact absurd h7_2 (by decide)
    · refine lv_iload_n hx hb dX7_noGroup_10 rfl (lv_at hl 3 rfl) ?_
      refine lv_iconst (v := 0) hx hb dX7_noGroup_11 (by decide) ?_
      refine lv_iconst (v := 3) hx hb dX7_noGroup_12 (by decide) ?_
      by_cases q13_3 : okA g 0 3
      · refine rdS (w0 := ([] : va_W)) (As := [.int g, .int 0, .int 3]) (rest := [.ref (ad o)]) CF (k_X7_in l G g 0 3 q13_3) (va_cwS 3 hts gX7_noGroup_X7_in rfl rfl rfl (by decide +kernel) ⟨Nat.le_of_ble_eq_true rfl, Nat.le_of_ble_eq_true rfl⟩) va_P_nil hY rfl hl.1 rfl (lv_room (Nat.le_of_ble_eq_true rfl)) dX7_noGroup_13 ⟨Nat.zero_le _, Nat.zero_le _⟩ ?_
        refine lv_if_eq (tgt := 23) hx hb dX7_noGroup_16 (by decide) (fun h16_4 => ?_) (fun h16_4 => ?_)
        · exact absurd h16_4 (by decide)
        · exact absurd ⟨q4_1, q13_3⟩ hk
      · refine rdS (w0 := ([] : va_W)) (As := [.int g, .int 0, .int 3]) (rest := [.ref (ad o)]) CF (kn_X7_in l G g 0 3 q13_3) (va_cwS 3 hts gX7_noGroup_X7_in rfl rfl rfl (by decide +kernel) ⟨Nat.le_of_ble_eq_true rfl, Nat.le_of_ble_eq_true rfl⟩) va_P_nil hY rfl hl.1 rfl (lv_room (Nat.le_of_ble_eq_true rfl)) dX7_noGroup_13 ⟨Nat.zero_le _, Nat.zero_le _⟩ ?_
        refine lv_if_eq (tgt := 23) hx hb dX7_noGroup_16 (by decide) (fun h16_5 => ?_) (fun h16_5 => ?_)
        · refine lv_iconst (v := 1) hx hb dX7_noGroup_23 (by decide) ?_
          refine wrV [] (wMo G ad o r) [] (wMo G ad o (1, r.2)) (As := [.int 1]) (rest := []) CF (k1_X7_refused l G ad o r 1 (by decide)) (cwV 1 hts gX7_noGroup_X7_refused rfl rfl rfl (by decide +kernel) ⟨Nat.le_of_ble_eq_true rfl, Nat.le_of_ble_eq_true rfl⟩) hP hD hS hA hY rfl rfl (fst_Mo _ _ _ _ _) rfl hl.1 rfl (lv_room (Nat.le_of_ble_eq_true rfl)) dX7_noGroup_24 ⟨Nat.zero_le _, Nat.zero_le _⟩ (fun H locs hP hD hS => ?_)
          have hP : va_P G.1 vwCl (wMo G ad o (1, r.2)) H := hP
          have hD : va_D A (wMo G ad o (1, r.2)) := hD
          exact wr_zret hx hb hr hlk hS hP (by first | with_reducible rfl | (simp only [sld_eq, q4_1, h7_2, q13_3, eq_true h16_5, ↓reduceIte]; done)) (by first | with_reducible rfl | (simp only [sld_eq, q4_1, h7_2, q13_3, eq_true h16_5, ↓reduceIte]; done)) rfl dX7_noGroup_27
        · exact absurd rfl h16_5
  · refine rdS (w0 := ([] : va_W)) (As := [.int st, .int 0, .int la]) (rest := [.ref (ad o)]) CF (kn_X7_in l G st 0 la q4_1) (va_cwS 3 hts gX7_noGroup_X7_in rfl rfl rfl (by decide +kernel) ⟨Nat.le_of_ble_eq_true rfl, Nat.le_of_ble_eq_true rfl⟩) va_P_nil hY rfl hl.1 rfl (lv_room (Nat.le_of_ble_eq_true rfl)) dX7_noGroup_4 ⟨Nat.zero_le _, Nat.zero_le _⟩ ?_
    refine lv_if_eq (tgt := 23) hx hb dX7_noGroup_7 (by decide) (fun h7_6 => ?_) (fun h7_6 => ?_)
    · refine lv_iconst (v := 1) hx hb dX7_noGroup_23 (by decide) ?_
      refine wrV [] (wMo G ad o r) [] (wMo G ad o (1, r.2)) (As := [.int 1]) (rest := []) CF (k1_X7_refused l G ad o r 1 (by decide)) (cwV 1 hts gX7_noGroup_X7_refused rfl rfl rfl (by decide +kernel) ⟨Nat.le_of_ble_eq_true rfl, Nat.le_of_ble_eq_true rfl⟩) hP hD hS hA hY rfl rfl (fst_Mo _ _ _ _ _) rfl hl.1 rfl (lv_room (Nat.le_of_ble_eq_true rfl)) dX7_noGroup_24 ⟨Nat.zero_le _, Nat.zero_le _⟩ (fun H locs hP hD hS => ?_)
      have hP : va_P G.1 vwCl (wMo G ad o (1, r.2)) H := hP
      have hD : va_D A (wMo G ad o (1, r.2)) := hD
      exact wr_zret hx hb hr hlk hS hP (by first | with_reducible rfl | (simp only [sld_eq, q4_1, eq_true h7_6, ↓reduceIte]; done)) (by first | with_reducible rfl | (simp only [sld_eq, q4_1, eq_true h7_6, ↓reduceIte]; done)) rfl dX7_noGroup_27
    · exact absurd rfl h7_6

set_option maxHeartbeats 4000000 in
set_option maxRecDepth 100000 in
theorem k_X7_thrown (l : Launch) (G : GT) (ad : Nat → Nat) (o : Nat) (r : MoT)  : Rd l yX7_thrown wsX7_thrown { frames := 0, cells := 0, slots := 0, locals := 0 } G (wMo G ad o r) [.ref (ad o)] (.int r.1) := by
  refine Met.ofW (cc := cX7_thrown) (maxL := 1) (ret := (some .int)) (by decide) rfl ?_
  intro p e s m args below meth c s₁ B hml hv
  obtain ⟨rfl, hP, hY⟩ := hv
  have hx := B.exec
  have hb := B.bytes
  have hr := B.returns
  have hts := atoms_spec (ws := wsX7_thrown) B.pre
  have hown : s.vm.findClass RX7 = some m.cls := findClass_of_methodNamed B.named
  have hlk := B.notSynchronized
  have CF : CallFix p m c cX7_thrown 1 s _ wsX7_thrown RX7 := ⟨hx, hb, hml, hown, hts⟩
  have hiX7 : ∀ w ∈ wsX70, w ∈ wsX7_thrown := fun w h => (List.mem_cons_of_mem _ (List.mem_append_right _ h))
  have kf42 := hts (.fieldLink RX7 42 "ReservoirReedModel" "refusal" "I") (List.mem_cons_of_mem _ (List.mem_append_left _ (List.mem_of_getElem? (i := 0) rfl)))
  have hl := lv_entry ([.ref (ad o)]) (n := 1) (Nat.le_of_ble_eq_true rfl)
  rw [lg_entry_eq]
  generalize (lg_sl ([.ref (ad o)]) ++ List.replicate (1 - (lg_sl ([.ref (ad o)])).length) Slot.unset).toArray = ls at hl ⊢
  have hl : lv_has ls 1 [(0, .ref (ad o))] := hl
  refine lv_aload_n hx hb dX7_thrown_0 rfl (lv_at hl 0 rfl) ?_
  refine va_get (D := G.1) (ci := 7) (v := .int r.1) (C := RX7) (T := TX7) (N := 13) hx hb hts hiX7 hown hY.1 hP 0 rfl rfl 0 (by decide) kf42 (fun _ h9 => h9) rfl dX7_thrown_1 ?_
  exact rd_iret hx hb hr hlk (by first | with_reducible rfl | (simp only [sld_eq, ↓reduceIte]; done)) dX7_thrown_4
