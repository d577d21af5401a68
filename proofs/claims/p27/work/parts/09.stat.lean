set_option maxHeartbeats 4000000 in
set_option maxRecDepth 100000 in
theorem k_X6_at (l : Launch) (G : GT) (n : Nat) (a : Nat) (f : Nat → Int32) (i : Int32) (hn : n < 2147483648) : Rd l yX6_at wsX6_at { frames := 0, cells := 0, slots := 0, locals := 0 } G [(a, .inl (G.2.1, n, .inl f))] [.ref a, .int i] (.int (at_ n f i)) := by
  refine Met.ofW (cc := cX6_at) (maxL := 2) (ret := (some .int)) (by decide) rfl ?_
  intro p e s m args below meth c s₁ B hml hv
  obtain ⟨rfl, hP, hY⟩ := hv
  have hx := B.exec
  have hb := B.bytes
  have hr := B.returns
  have hts := atoms_spec (ws := wsX6_at) B.pre
  have hown : s.vm.findClass RX6 = some m.cls := findClass_of_methodNamed B.named
  have hlk := B.notSynchronized
  have CF : CallFix p m c cX6_at 2 s _ wsX6_at RX6 := ⟨hx, hb, hml, hown, hts⟩
  have hl := lv_entry ([.ref a, .int i]) (n := 2) (Nat.le_of_ble_eq_true rfl)
  rw [lg_entry_eq]
  generalize (lg_sl ([.ref a, .int i]) ++ List.replicate (2 - (lg_sl ([.ref a, .int i])).length) Slot.unset).toArray = ls at hl ⊢
  have hl : lv_has ls 2 [(0, .ref a), (1, .int i)] := hl
  refine lv_iload_n hx hb dX6_at_0 rfl (lv_at hl 1 rfl) ?_
  refine lv_if_lt (tgt := 16) hx hb dX6_at_1 (by decide) (fun h1_1 => ?_) (fun h1_1 => ?_)
  · refine lv_iconst (v := 0) hx hb dX6_at_16 (by decide) ?_
    exact rd_iret hx hb hr hlk (by first | with_reducible rfl | (simp only [at_, sld_eq, h1_1, ↓reduceIte]; done)) dX6_at_17
  · refine lv_iload_n hx hb dX6_at_4 rfl (lv_at hl 1 rfl) ?_
    refine lv_aload_n hx hb dX6_at_5 rfl (lv_at hl 0 rfl) ?_
    refine va_alen hx hb hY.1 hP 0 0 rfl rfl (v := Int32.ofNat n) rfl dX6_at_6 ?_
    refine lv_icmp_ge (tgt := 16) hx hb dX6_at_7 (by decide) (fun h7_2 => ?_) (fun h7_2 => ?_)
    · refine lv_iconst (v := 0) hx hb dX6_at_16 (by decide) ?_
      exact rd_iret hx hb hr hlk (by first | with_reducible rfl | (simp only [at_, sld_eq, h1_1, h7_2, ↓reduceIte]; done)) dX6_at_17
    · refine lv_aload_n hx hb dX6_at_10 rfl (lv_at hl 0 rfl) ?_
      refine lv_iload_n hx hb dX6_at_11 rfl (lv_at hl 1 rfl) ?_
      refine va_iald hx hb hY.1 hP 0 0 rfl rfl (vp_of hn h1_1 h7_2) dX6_at_12 ?_
      refine lv_goto (tgt := 17) hx hb dX6_at_13 (by decide) ?_
      exact rd_iret hx hb hr hlk (by first | with_reducible rfl | (simp only [at_, sld_eq, h1_1, h7_2, ↓reduceIte]; done)) dX6_at_17

set_option maxHeartbeats 4000000 in
set_option maxRecDepth 100000 in
theorem k_X6_put (l : Launch) (G : GT) (n : Nat) (a : Nat) (f : Nat → Int32) (i v : Int32) (hn : n < 2147483648) : Wr l yX6_put wsX6_put { frames := 0, cells := 0, slots := 0, locals := 0 } G [(a, .inl (G.2.1, n, .inl f))] [(a, .inl (G.2.1, n, .inl (put_ n f i v)))] [.ref a, .int i, .int v] none := by
  intro sz
  refine Met.ofW (cc := cX6_put) (maxL := 3) (ret := none) (by decide) rfl ?_
  intro p e s m args below meth c s₁ B hml hv
  obtain ⟨rfl, hsz, hP, hY, hD0⟩ := hv
  subst hsz
  have hD := hD0.self (sz := s.heap.size)
  generalize hAe : va_A [(a, .inl (G.2.1, n, .inl f))] s.heap.size = A at hD ⊢
  have hA : ∀ q : Nat, s.heap.size ≤ q → A q := fun q h => by rw [← hAe]; exact Or.inr h
  have hS : va_S A s.heap s.heap [] := va_S.rf
  have hx := B.exec
  have hb := B.bytes
  have hr := B.returns
  have hts := atoms_spec (ws := wsX6_put) B.pre
  have hown : s.vm.findClass RX6 = some m.cls := findClass_of_methodNamed B.named
  have hlk := B.notSynchronized
  have CF : CallFix p m c cX6_put 3 s _ wsX6_put RX6 := ⟨hx, hb, hml, hown, hts⟩
  have hl := lv_entry ([.ref a, .int i, .int v]) (n := 3) (Nat.le_of_ble_eq_true rfl)
  rw [lg_entry_eq]
  generalize (lg_sl ([.ref a, .int i, .int v]) ++ List.replicate (3 - (lg_sl ([.ref a, .int i, .int v])).length) Slot.unset).toArray = ls at hl ⊢
  have hl : lv_has ls 3 [(0, .ref a), (1, .int i), (2, .int v)] := hl
  refine lv_iload_n hx hb dX6_put_0 rfl (lv_at hl 1 rfl) ?_
  refine lv_if_lt (tgt := 14) hx hb dX6_put_1 (by decide) (fun h1_1 => ?_) (fun h1_1 => ?_)
  · exact wr_vret hx hb hr hlk hS hP (by first | with_reducible rfl | (simp only [put_, sld_eq, h1_1, ↓reduceIte]; done)) dX6_put_14
  · refine lv_iload_n hx hb dX6_put_4 rfl (lv_at hl 1 rfl) ?_
    refine lv_aload_n hx hb dX6_put_5 rfl (lv_at hl 0 rfl) ?_
    refine va_alen hx hb hY.1 hP 0 0 rfl rfl (v := Int32.ofNat n) rfl dX6_put_6 ?_
    refine lv_icmp_ge (tgt := 14) hx hb dX6_put_7 (by decide) (fun h7_2 => ?_) (fun h7_2 => ?_)
    · exact wr_vret hx hb hr hlk hS hP (by first | with_reducible rfl | (simp only [put_, sld_eq, h1_1, h7_2, ↓reduceIte]; done)) dX6_put_14
    · refine lv_aload_n hx hb dX6_put_10 rfl (lv_at hl 0 rfl) ?_
      refine lv_iload_n hx hb dX6_put_11 rfl (lv_at hl 1 rfl) ?_
      refine lv_iload_n hx hb dX6_put_12 rfl (lv_at hl 2 rfl) ?_
      refine va_iast hx hb hY.1 hP hD hS 0 0 rfl rfl (vp_of hn h1_1 h7_2) dX6_put_13 (fun H locs hP hD hS => ?_)
      have hP : va_P G.1 vwCl [(a, .inl (G.2.1, n, .inl (upd f i.toNatClampNeg v)))] H := hP
      have hD : va_D A [(a, .inl (G.2.1, n, .inl (upd f i.toNatClampNeg v)))] := hD
      exact wr_vret hx hb hr hlk hS hP (by first | with_reducible rfl | (simp only [put_, sld_eq, h1_1, h7_2, ↓reduceIte]; done)) dX6_put_14

set_option maxHeartbeats 4000000 in
set_option maxRecDepth 100000 in
theorem k_X6_remainder (l : Launch) (G : GT) (d q : Int32) : Rd l yX6_remainder wsX6_remainder { frames := 0, cells := 0, slots := 0, locals := 0 } G ([] : va_W) [.int d, .int q] (.int (rem_ d q)) := by
  refine Met.ofW (cc := cX6_remainder) (maxL := 2) (ret := (some .int)) (by decide) rfl ?_
  intro p e s m args below meth c s₁ B hml hv
  obtain ⟨rfl, hP, hY⟩ := hv
  have hx := B.exec
  have hb := B.bytes
  have hr := B.returns
  have hts := atoms_spec (ws := wsX6_remainder) B.pre
  have hown : s.vm.findClass RX6 = some m.cls := findClass_of_methodNamed B.named
  have hlk := B.notSynchronized
  have CF : CallFix p m c cX6_remainder 2 s _ wsX6_remainder RX6 := ⟨hx, hb, hml, hown, hts⟩
  have hl := lv_entry ([.int d, .int q]) (n := 2) (Nat.le_of_ble_eq_true rfl)
  rw [lg_entry_eq]
  generalize (lg_sl ([.int d, .int q]) ++ List.replicate (2 - (lg_sl ([.int d, .int q])).length) Slot.unset).toArray = ls at hl ⊢
  have hl : lv_has ls 2 [(0, .int d), (1, .int q)] := hl
  refine lv_iload_n hx hb dX6_remainder_0 rfl (lv_at hl 1 rfl) ?_
  refine lv_if_le (tgt := 10) hx hb dX6_remainder_1 (by decide) (fun h1_1 => ?_) (fun h1_1 => ?_)
  · refine lv_iconst (v := 0) hx hb dX6_remainder_10 (by decide) ?_
    exact rd_iret hx hb hr hlk (by first | with_reducible rfl | (simp only [rem_, sld_eq, h1_1, ↓reduceIte]; done)) dX6_remainder_11
  · refine lv_iload_n hx hb dX6_remainder_4 rfl (lv_at hl 0 rfl) ?_
    refine lv_iload_n hx hb dX6_remainder_5 rfl (lv_at hl 1 rfl) ?_
    refine lv_irem hx hb dX6_remainder_6 (fun h0 => h1_1 (by rw [h0]; decide)) ?_
    refine lv_goto (tgt := 11) hx hb dX6_remainder_7 (by decide) ?_
    exact rd_iret hx hb hr hlk (by first | with_reducible rfl | (simp only [rem_, sld_eq, h1_1, ↓reduceIte]; done)) dX6_remainder_11

set_option maxHeartbeats 4000000 in
set_option maxRecDepth 100000 in
theorem k_X6_quotient (l : Launch) (G : GT) (v d : Int64) : Rd l yX6_quotient wsX6_quotient { frames := 0, cells := 0, slots := 0, locals := 0 } G ([] : va_W) [.long v, .long d] (.long (quo_ v d)) := by
  refine Met.ofW (cc := cX6_quotient) (maxL := 4) (ret := (some .long)) (by decide) rfl ?_
  intro p e s m args below meth c s₁ B hml hv
  obtain ⟨rfl, hP, hY⟩ := hv
  have hx := B.exec
  have hb := B.bytes
  have hr := B.returns
  have hts := atoms_spec (ws := wsX6_quotient) B.pre
  have hown : s.vm.findClass RX6 = some m.cls := findClass_of_methodNamed B.named
  have hlk := B.notSynchronized
  have CF : CallFix p m c cX6_quotient 4 s _ wsX6_quotient RX6 := ⟨hx, hb, hml, hown, hts⟩
  have hl := lv_entry ([.long v, .long d]) (n := 4) (Nat.le_of_ble_eq_true rfl)
  rw [lg_entry_eq]
  generalize (lg_sl ([.long v, .long d]) ++ List.replicate (4 - (lg_sl ([.long v, .long d])).length) Slot.unset).toArray = ls at hl ⊢
  have hl : lv_has ls 4 [(0, .long v), (2, .long d)] := hl
  refine lv_lload_n hx hb dX6_quotient_0 rfl (lv_at hl 1 rfl) ?_
  refine lv_lconst (v := 0) hx hb dX6_quotient_1 (by decide) ?_
  refine W.lcmp hx hb dX6_quotient_2 ?_
  refine lv_if_le (tgt := 12) hx hb dX6_quotient_3 (by decide) (fun h3_1 => ?_) (fun h3_1 => ?_)
  · refine lv_lconst (v := 0) hx hb dX6_quotient_12 (by decide) ?_
    exact rd_lret hx hb hr hlk (by first | with_reducible rfl | (simp only [quo_, sld_eq, h3_1, ↓reduceIte]; done)) dX6_quotient_13
  · refine lv_lload_n hx hb dX6_quotient_6 rfl (lv_at hl 0 rfl) ?_
    refine lv_lload_n hx hb dX6_quotient_7 rfl (lv_at hl 1 rfl) ?_
    refine lv_ldiv hx hb dX6_quotient_8 (fun h0 => h3_1 (by rw [h0]; decide)) ?_
    refine lv_goto (tgt := 13) hx hb dX6_quotient_9 (by decide) ?_
    exact rd_lret hx hb hr hlk (by first | with_reducible rfl | (simp only [quo_, sld_eq, h3_1, ↓reduceIte]; done)) dX6_quotient_13

set_option maxHeartbeats 4000000 in
set_option maxRecDepth 100000 in
theorem k_X6_insert (l : Launch) (G : GT) (n : Nat) (a : Nat) (f : Nat → Int32) (pl en va : Int32) (hn : n < 2147483648) : Wr l yX6_insert wsX6_insert { frames := 1, cells := 0, slots := 0, locals := 22 } G [(a, .inl (G.2.1, n, .inl f))] [(a, .inl (G.2.1, n, .inl (ins_ n f pl en va)))] [.ref a, .int pl, .int en, .int va] none := by
  intro sz
  refine Met.ofW (cc := cX6_insert) (maxL := 5) (ret := none) (by decide) rfl ?_
  intro p e s m args below meth c s₁ B hml hv
  obtain ⟨rfl, hsz, hP, hY, hD0⟩ := hv
  subst hsz
  have hD := hD0.self (sz := s.heap.size)
  generalize hAe : va_A [(a, .inl (G.2.1, n, .inl f))] s.heap.size = A at hD ⊢
  have hA : ∀ q : Nat, s.heap.size ≤ q → A q := fun q h => by rw [← hAe]; exact Or.inr h
  have hS : va_S A s.heap s.heap [] := va_S.rf
  have hx := B.exec
  have hb := B.bytes
  have hr := B.returns
  have hts := atoms_spec (ws := wsX6_insert) B.pre
  have hown : s.vm.findClass RX6 = some m.cls := findClass_of_methodNamed B.named
  have hlk := B.notSynchronized
  have CF : CallFix p m c cX6_insert 5 s _ wsX6_insert RX6 := ⟨hx, hb, hml, hown, hts⟩
  have hl := lv_entry ([.ref a, .int pl, .int en, .int va]) (n := 5) (Nat.le_of_ble_eq_true rfl)
  rw [lg_entry_eq]
  generalize (lg_sl ([.ref a, .int pl, .int en, .int va]) ++ List.replicate (5 - (lg_sl ([.ref a, .int pl, .int en, .int va])).length) Slot.unset).toArray = ls at hl ⊢
  have hl : lv_has ls 5 [(0, .ref a), (1, .int pl), (2, .int en), (3, .int va)] := hl
  refine lv_iload_n hx hb dX6_insert_0 rfl (lv_at hl 2 rfl) ?_
  refine lv_iconst (v := 1) hx hb dX6_insert_1 (by decide) ?_
  refine lv_isub hx hb dX6_insert_2 ?_
  refine lv_istore (lv' := [(4, .int (en - 1)), (0, .ref a), (1, .int pl), (2, .int en), (3, .int va)]) hx hb dX6_insert_3 hl (by decide) rfl (fun ls hl => ?_)
  have loop1 : ∀ (fu : Nat) (i : Int32) (f2 : Nat → Int32), (i.toInt - pl.toInt).toNat < fu → insL n pl fu i f2 = insL n pl ((((en - 1)).toInt - pl.toInt).toNat + 1) (en - 1) f → ∀ (H : Heap) (locs : List Loc) (ls : Array Slot), va_P G.1 vwCl [(a, .inl (G.2.1, n, .inl f2))] H → va_D A [(a, .inl (G.2.1, n, .inl f2))] → va_S A s.heap H locs → lv_has ls 5 [(4, .int i), (0, .ref a), (1, .int pl), (2, .int en), (3, .int va)] → W p l e (headSpec wsX6_insert { frames := 1, cells := 0, slots := 0, locals := 22 }).room s m ([.ref a, .int pl, .int en, .int va] : List Value).toArray below meth c H locs 0 0 (MQ below (WQ none G [(a, .inl (G.2.1, n, .inl (ins_ n f pl en va)))] A) ([.ref a, .int pl, .int en, .int va] : List Value).toArray s 0 0 A) (F0 m 5 ls []) := by
    intro fu
    induction fu with
    | zero => intro i f2 hm; exact absurd hm (Nat.not_lt_zero _)
    | succ fu ih =>
      intro i f2 hm hR1  H locs ls hP hD hS hl
      refine lv_iload hx hb dX6_insert_5 (lv_at hl 0 rfl) ?_
      refine lv_iload_n hx hb dX6_insert_7 rfl (lv_at hl 2 rfl) ?_
      refine lv_icmp_le (tgt := 31) hx hb dX6_insert_8 (by decide) (fun h8_1 => ?_) (fun h8_1 => ?_)
      · refine lv_aload_n hx hb dX6_insert_31 rfl (lv_at hl 1 rfl) ?_
        refine lv_iload_n hx hb dX6_insert_32 rfl (lv_at hl 2 rfl) ?_
        refine lv_iload_n hx hb dX6_insert_33 rfl (lv_at hl 4 rfl) ?_
        refine wrS [] [(a, .inl (G.2.1, n, .inl f2))] [] [(a, .inl (G.2.1, n, .inl (put_ n f2 pl va)))] (As := [.ref a, .int pl, .int va]) (rest := []) CF (k_X6_put l G n a f2 pl va hn) (va_cwS 3 hts gX6_insert_X6_put rfl rfl rfl (by decide +kernel) ⟨Nat.le_of_ble_eq_true rfl, Nat.le_of_ble_eq_true rfl⟩) hP hD hS hA hY (fst_arr _ _ _) rfl hl.1 rfl (lv_room (Nat.le_of_ble_eq_true rfl)) dX6_insert_34 ⟨Nat.zero_le _, Nat.zero_le _⟩ (fun H locs hP hD hS => ?_)
        have hP : va_P G.1 vwCl [(a, .inl (G.2.1, n, .inl (put_ n f2 pl va)))] H := hP
        have hD : va_D A [(a, .inl (G.2.1, n, .inl (put_ n f2 pl va)))] := hD
        exact wr_vret hx hb hr hlk hS hP (by first | (simp only [ins_, sld_eq, ↓reduceIte]; rw [← hR1]; simp only [insL, h8_1, ↓reduceIte]) | (rw [← hR1]; simp only [insL, h8_1, ↓reduceIte])) dX6_insert_37
      · refine lv_aload_n hx hb dX6_insert_11 rfl (lv_at hl 1 rfl) ?_
        refine lv_iload hx hb dX6_insert_12 (lv_at hl 0 rfl) ?_
        refine lv_aload_n hx hb dX6_insert_14 rfl (lv_at hl 1 rfl) ?_
        refine lv_iload hx hb dX6_insert_15 (lv_at hl 0 rfl) ?_
        refine lv_iconst (v := 1) hx hb dX6_insert_17 (by decide) ?_
        refine lv_isub hx hb dX6_insert_18 ?_
        refine rdS (w0 := [(a, .inl (G.2.1, n, .inl f2))]) (As := [.ref a, .int (i - 1)]) (rest := [.int i, .ref a]) CF (k_X6_at l G n a f2 (i - 1) hn) (va_cwS 2 hts gX6_insert_X6_at rfl rfl rfl (by decide +kernel) ⟨Nat.le_of_ble_eq_true rfl, Nat.le_of_ble_eq_true rfl⟩) hP hY rfl hl.1 rfl (lv_room (Nat.le_of_ble_eq_true rfl)) dX6_insert_19 ⟨Nat.zero_le _, Nat.zero_le _⟩ ?_
        refine wrS [] [(a, .inl (G.2.1, n, .inl f2))] [] [(a, .inl (G.2.1, n, .inl (put_ n f2 i (at_ n f2 (i - 1)))))] (As := [.ref a, .int i, .int (at_ n f2 (i - 1))]) (rest := []) CF (k_X6_put l G n a f2 i (at_ n f2 (i - 1)) hn) (va_cwS 3 hts gX6_insert_X6_put rfl rfl rfl (by decide +kernel) ⟨Nat.le_of_ble_eq_true rfl, Nat.le_of_ble_eq_true rfl⟩) hP hD hS hA hY (fst_arr _ _ _) rfl hl.1 rfl (lv_room (Nat.le_of_ble_eq_true rfl)) dX6_insert_22 ⟨Nat.zero_le _, Nat.zero_le _⟩ (fun H locs hP hD hS => ?_)
        have hP : va_P G.1 vwCl [(a, .inl (G.2.1, n, .inl (put_ n f2 i (at_ n f2 (i - 1)))))] H := hP
        have hD : va_D A [(a, .inl (G.2.1, n, .inl (put_ n f2 i (at_ n f2 (i - 1)))))] := hD
        refine lv_iinc (v := i + (-1)) (lv' := [(4, .int (i + (-1))), (0, .ref a), (1, .int pl), (2, .int en), (3, .int va)]) hx hb dX6_insert_25 hl (k := 0) rfl rfl (by decide) rfl (fun ls hl => ?_)
        refine lv_goto (tgt := 5) hx hb dX6_insert_28 (by decide) ?_
        exact ih (i + (-1)) (put_ n f2 i (at_ n f2 (i - 1))) (ms_dn h8_1 hm) (by rw [← hR1]; simp only [insL, h8_1, ↓reduceIte])  _ _ ls hP hD hS (lv_sub hl [0, 1, 2, 3, 4] rfl)
  exact loop1 _ (en - 1) f (Nat.lt_succ_self _) rfl  _ _ ls hP hD hS (lv_sub hl [0, 1, 2, 3, 4] rfl)
