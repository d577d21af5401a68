/-- more room than the claim grants: the walk goes on where the claim's room is used up -/
abbrev bigR : Room := { frames := 12, cells := 400, slots := 8000, locals := 462 }
abbrev DPc (b L : Nat) (xs : Nat → Int32) (av : List Value) : Array Value → State → Prop := va_Pc av (fun U => va_X b L xs U U.heap)
theorem DPc.blind {b L : Nat} {xs : Nat → Int32} {av : List Value} : FrameBlind (DPc b L xs av) := fun a U g mk q => ⟨q.1, va_X.moved (u := U) (Vm.Alike.refl U.vm) q.2⟩
set_option maxHeartbeats 4000000 in
set_option maxRecDepth 100000 in
theorem k_L_drawn (l : Launch) (b L : Nat) (xs : Nat → Int32) (k v : Int32) (hk : ¬ Int32.ofNat L ≤ k) (hin : vp_in k L) (hv9 : xs k.toNatClampNeg &&& 2147483647 = v) : Met l yL_drawn wsL_drawn { frames := 0, cells := 0, slots := 0, locals := 0 } (DPc b L xs [.ref b, .int k]) (RQ (.int v)) 0 0 (fun _ => False) := by
  refine Met.ofW (cc := cL_drawn) (maxL := 2) (ret := (some .int)) (by decide) rfl ?_
  intro p e s m args below meth c s₁ B hml hv
  obtain ⟨rfl, hX⟩ := hv
  have hx := B.exec
  have hb := B.bytes
  have hr := B.returns
  have hts := atoms_spec (ws := wsL_drawn) B.pre
  have hown : s.vm.findClass RL = some m.cls := findClass_of_methodNamed B.named
  have hlk := B.notSynchronized
  have hX9 := hX
  obtain ⟨scr, hc9, -⟩ := hX9
  have hbl : b < s.heap.size := (Array.getElem?_eq_some_iff.mp hc9).1
  have hS : va_S (fun _ => False) s.heap s.heap [] := va_S.rf
  have kc102 := hts (.constant RL 102 (2147483647)) (List.mem_cons_of_mem _ (List.mem_of_getElem? (i := 1) rfl))
  have hl := lv_entry ([.ref b, .int k]) (n := 2) (Nat.le_of_ble_eq_true rfl)
  rw [lg_entry_eq]
  generalize (lg_sl ([.ref b, .int k]) ++ List.replicate (2 - (lg_sl ([.ref b, .int k])).length) Slot.unset).toArray = ls at hl ⊢
  have hl : lv_has ls 2 [(0, .ref b), (1, .int k)] := hl
  refine lv_iload_n hx hb dL_drawn_0 rfl (lv_at hl 1 rfl) ?_
  refine lv_aload_n hx hb dL_drawn_1 rfl (lv_at hl 0 rfl) ?_
  refine va_slen hx hb hX hbl (fun h => h) hS dL_drawn_2 ?_
  refine lv_icmp_ge (tgt := 12) hx hb dL_drawn_3 (by decide) (fun h => absurd h hk) (fun _ => ?_)
  refine lv_aload_n hx hb dL_drawn_6 rfl (lv_at hl 0 rfl) ?_
  refine lv_iload_n hx hb dL_drawn_7 rfl (lv_at hl 1 rfl) ?_
  refine va_sld hx hb hX hbl (fun h => h) hS hin dL_drawn_8 ?_
  refine lv_goto (tgt := 22) hx hb dL_drawn_9 (by decide) ?_
  refine lv_ldc hx hb hown kc102 dL_drawn_22 ?_
  refine lv_iand hx hb dL_drawn_24 ?_
  exact rd_iret hx hb hr hlk hv9 dL_drawn_25
/-- merged with an empty sample nothing changes -/
theorem priAll_0 (r q : PriT) (h : q.2.1 = 0) : priAll r q = r := by
  unfold priAll
  rw [sld_eq, h]
  rfl
theorem disAll_0 (r q : DisT) (h : q.2.1 = 0) : disAll r q = r := by
  unfold disAll
  rw [sld_eq, h]
  rfl
/-- n addresses that differ, all from lo on and below hi -/
theorem nd_le : ∀ (n : Nat) (l : List Nat), l.Nodup → (∀ a ∈ l, a < n) → l.length ≤ n := by
  intro n
  induction n with
  | zero =>
    intro l _ h
    cases l with
    | nil => exact Nat.le_refl 0
    | cons a t => exact absurd (h a List.mem_cons_self) (Nat.not_lt_zero a)
  | succ n ih =>
    intro l hd h
    have h1 := ih (l.erase n) (hd.erase n) (fun a ha => by
      have h2 := h a (List.mem_of_mem_erase ha)
      have h3 : a ≠ n := fun e => (hd.mem_erase_iff.mp ha).1 e
      omega)
    by_cases hm : n ∈ l
    · rw [List.length_erase_of_mem hm] at h1
      omega
    · rw [List.erase_of_not_mem hm] at h1
      omega
theorem nd_range (lo hi : Nat) (l : List Nat) (hd : l.Nodup) (h : ∀ a ∈ l, lo ≤ a ∧ a < hi) : lo + l.length ≤ hi ∨ l = [] := by
  by_cases hl : l = []
  · exact Or.inr hl
  · left
    have h1 := nd_le (hi - lo) (l.map (fun a => a - lo)) (by
      rw [List.nodup_iff_pairwise_ne, List.pairwise_map]
      refine (List.nodup_iff_pairwise_ne.mp hd).imp_of_mem ?_
      intro a b ha hb hab e
      have := h a ha
      have := h b hb
      omega) (fun a ha => by
      obtain ⟨x, hx, rfl⟩ := List.mem_map.mp ha
      have := h x hx
      omega)
    rw [List.length_map] at h1
    obtain ⟨a, ha⟩ := List.exists_mem_of_ne_nil l hl
    have := h a ha
    omega
/-- a world of cells that differ takes as many places -/
theorem room_of {G : GT} {s : State} {ws : va_W} {H : Heap} (hP : va_P G.1 vwCl ws H) (hD : va_D (fun q : Nat => s.heap.size ≤ q) ws) (hS : s.heap.size ≤ H.size) : s.heap.size + ws.length ≤ H.size := by
  rw [va_D.nodup] at hD
  rw [va_P.mem] at hP
  rcases nd_range s.heap.size H.size (ws.map Prod.fst) hD.1 (fun a ha => by
    obtain ⟨q, hq, rfl⟩ := List.mem_map.mp ha
    exact ⟨hD.2 q.1 ha, (hP q hq).lt⟩) with h | h
  · rw [List.length_map] at h
    exact h
  · rw [List.map_eq_nil_iff.mp h]
    exact hS
set_option maxHeartbeats 40000000 in
set_option maxRecDepth 100000 in
/-- the law from its entry, by a script whose ints 0, 1, 33 are as the printed start has them: behind the second call of 'refuses' more than 290 cells are new -/
theorem law_big {p : Program} {e : Env} {s : State} {m : MethodId} {below : List Frame} {meth : Method} {c : Code} (l : Launch) (hflags : l.flags = flags0) {b L : Nat} {xs : Nat → Int32} (hL0 : 34 ≤ L) (hL : L ≤ 260) (x0 : xs 0 = -49) (x1 : xs 1 = -12) (x33 : xs 33 = 168) (C0 : lw_At p s m meth c b L xs) : W p l e bigR s m #[Value.ref b] below meth c s.heap [] 0 0 (fun t => s.heap.size + 291 ≤ t.heap.size ∧ Within t below) (entryFrame m ([Value.ref b] : List Value).toArray 17) := by
  obtain ⟨hx, hb, hr, hml, hown, hts0, hX, hbl, hlocks, hgv⟩ := id C0
  have hl0 := hl0_of hflags
  obtain ⟨G, hY, hZ⟩ := sy_of hts0 hgv
  have hts : ∀ w ∈ wsL_law, w.before #[Value.ref b] s = true := fun w h => hts0 w (wsL_law_in w h)
  have hown : s.vm.findClass RL = some m.cls := hown
  have CF : CallFix p m c cL_law 17 s #[Value.ref b] wsL_law RL := ⟨hx, hb, hml, hown, hts⟩
  have hA : ∀ q : Nat, s.heap.size ≤ q → (fun q : Nat => s.heap.size ≤ q) q := fun _ h => h
  have hbA : ¬ (fun q : Nat => s.heap.size ≤ q) b := Nat.not_le.mpr hbl
  have hS : va_S (fun q : Nat => s.heap.size ≤ q) s.heap s.heap [] := va_S.rf
  have hP : va_P G.1 vwCl [] s.heap := va_P_nil
  have hD : va_D (fun q : Nat => s.heap.size ≤ q) [] := ⟨fun i j p q h => by simp at h, fun k q h => by simp at h⟩
  have hnl : ∀ (k : Int32) (n : Nat), k.toInt = (n : Int) → n < 34 → ¬ Int32.ofNat L ≤ k := by
    intro k n h1 h2 h3
    rw [Int32.le_iff_toInt_le, show (Int32.ofNat L).toInt = (L : Int) from nI_toInt (by omega), h1] at h3
    omega
  have hl := lv_entry ([.ref b]) (n := 17) (Nat.le_of_ble_eq_true rfl)
  rw [lg_entry_eq]
  generalize (lg_sl ([.ref b]) ++ List.replicate (17 - (lg_sl ([.ref b])).length) Slot.unset).toArray = ls at hl ⊢
  have hl : lv_has ls 17 [(0, .ref b)] := hl
  have hsA : ¬ 300 ≤ (rrStr (rrStart 6 6 (rrStart 4 8 zRR)) 0).2.2.1 := by decide +kernel
  have hsB : ¬ 300 ≤ (rrStr (rrMD (rrMD (rrMP (rrMP (rrStart 6 6 (rrStart 4 8 zRR)) 2) 0) 2) 1) 0).2.2.1 := by decide +kernel
  have eA : (if (0 : Int32) = 2 then (rrStart 6 6 (rrStart 4 8 zRR)).2.1.2.2.1 + (rrStart 6 6 (rrStart 4 8 zRR)).2.2.1.2.2.1 else (rrStr (rrStart 6 6 (rrStart 4 8 zRR)) 0).2.2.1) = 0 := by decide +kernel
  have eTA : (strTake (rrStr (rrStart 6 6 (rrStart 4 8 zRR)) 0) 4 2 2 2147483636 33).2.2.1 = 1 := by decide +kernel
  have eTB : (strTake (rrStr (rrMD (rrMD (rrMP (rrMP (rrStart 6 6 (rrStart 4 8 zRR)) 2) 0) 2) 1) 0) 4 2 2 2147483636 33).2.2.1 = 1 := by decide +kernel
  have eO : (if (2 : Int32) = 2 then (rrSet (rrStart 6 6 (rrStart 4 8 zRR)) 0 (strTake (rrStr (rrStart 6 6 (rrStart 4 8 zRR)) 0) 4 2 2 2147483636 33)).2.1.2.2.1 + (rrSet (rrStart 6 6 (rrStart 4 8 zRR)) 0 (strTake (rrStr (rrStart 6 6 (rrStart 4 8 zRR)) 0) 4 2 2 2147483636 33)).2.2.1.2.2.1 else (rrStr (rrSet (rrStart 6 6 (rrStart 4 8 zRR)) 0 (strTake (rrStr (rrStart 6 6 (rrStart 4 8 zRR)) 0) 4 2 2 2147483636 33)) 2).2.2.1) = 1 := by decide +kernel
  have e4 : rrPri (rrStart 6 6 (rrStart 4 8 zRR)) 2 = priStart 6 (rrStart 6 6 (rrStart 4 8 zRR)).2.2.2.1 := by unfold rrPri; rw [if_pos rfl]; unfold rrPriM; rw [priAll_0 _ _ rfl, priAll_0 _ _ rfl]; rfl
  have e6 : rrDis (rrMP (rrMP (rrStart 6 6 (rrStart 4 8 zRR)) 2) 0) 2 = disStart 6 (rrStart 6 6 (rrStart 4 8 zRR)).2.2.2.2 := by unfold rrDis; rw [if_pos rfl]; unfold rrDisM; rw [disAll_0 _ _ rfl, disAll_0 _ _ rfl]; rfl
  have p1 : ¬ okP 57 (resFilled (rrStr (rrStart 6 6 (rrStart 4 8 zRR)) 0).2.2.2.1) := by decide +kernel
  have p2 : ¬ okP 57 (resFilled (rrStr (rrStart 6 6 (rrStart 4 8 zRR)) 1).2.2.2.1) := by decide +kernel
  have p3 : ¬ okP 57 (resFilled (strGrp (rrStr (rrStart 6 6 (rrStart 4 8 zRR)) 1) 3).2) := by decide +kernel
  have p4 : ¬ okP 57 (priSampled (rrPri (rrStart 6 6 (rrStart 4 8 zRR)) 2)) := by rw [e4]; decide +kernel
  have p5 : ¬ okP 57 (priSampled (rrPri (rrMP (rrStart 6 6 (rrStart 4 8 zRR)) 2) 0)) := by decide +kernel
  have p6 : ¬ okP 57 (rrDis (rrMP (rrMP (rrStart 6 6 (rrStart 4 8 zRR)) 2) 0) 2).2.1 := by rw [e6]; decide +kernel
  have p7 : ¬ okP 57 (rrDis (rrMD (rrMP (rrMP (rrStart 6 6 (rrStart 4 8 zRR)) 2) 0) 2) 1).2.1 := by decide +kernel
  have kc113 := (hts0 (.constant RL 113 (1000001)) (List.mem_append_right _ (List.mem_of_getElem? (i := 530) (by decide +kernel))))
  have kc174 := (hts0 (.constant RL 174 (1000000)) (List.mem_append_right _ (List.mem_of_getElem? (i := 684) (by decide +kernel))))
  refine va_new (ci := 6) (fs := [.null, .null, .null, .null, .int 0]) (C := RX6) (T := TX6) (N := 5) hx hb hts0 inX6 tyX6 tyX6_ok hown (hts0 (.classLink RL 8 RX6) (List.mem_append_right _ (List.mem_of_getElem? (i := 15) (by decide +kernel)))) (hts0 (.instantiable RX6 5) (List.mem_append_right _ (List.mem_of_getElem? (i := 16) (by decide +kernel)))) (hts0 (.initialized RX6) (List.mem_append_right _ (List.mem_of_getElem? (i := 1) (by decide +kernel)))) hY.1 hP hD hS hA rfl (fun j hj => by rcases (show j = 0 ∨ j = 1 ∨ j = 2 ∨ j = 3 ∨ j = 4 by omega) with rfl | rfl | rfl | rfl | rfl <;> rfl) (Nat.le_of_ble_eq_true rfl) (Nat.le_of_ble_eq_true rfl) dL_law_0 (fun q1 H hP hD hS => ?_)
  have hP9 : va_P G.1 vwCl ([] ++ (([(q1, .inr (6, [.null, .null, .null, .null, .int 0]))] : va_W) ++ [])) H := by rw [List.append_nil]; exact hP
  have hD9 : va_D (fun q : Nat => s.heap.size ≤ q) ([] ++ (([(q1, .inr (6, [.null, .null, .null, .null, .int 0]))] : va_W) ++ [])) := by rw [List.append_nil]; exact hD
  refine W.widen (k := 1) (n := 5) (Nat.le_of_ble_eq_true rfl) (Nat.le_of_ble_eq_true rfl) ?_
  refine lv_dup hx hb dL_law_3 rfl ?_
  refine ctI (rest := [.ref q1]) [] [] q1 CF (kc_X6_init l G) (cwI 0 hts gL_law_X6_init rfl rfl rfl (hts0 (.initialized RX6) (List.mem_append_right _ (List.mem_of_getElem? (i := 1) (by decide +kernel)))) (hts0 (.methodLink RL 169 yX6_init) (List.mem_append_right _ (List.mem_of_getElem? (i := 17) (by decide +kernel)))) (hts0 (.instanceMethod yX6_init) (List.mem_append_right _ (List.mem_of_getElem? (i := 18) (by decide +kernel)))) rfl (by decide +kernel) ⟨(Nat.le_of_ble_eq_true rfl), (Nat.le_of_ble_eq_true rfl)⟩) hP9 hD9 hS hA hY hl.1 rfl (lv_room (Nat.le_of_ble_eq_true rfl)) dL_law_4 ⟨(Nat.le_of_ble_eq_true rfl), (Nat.le_of_ble_eq_true rfl)⟩ (fun a1 H locs had hPn hDn hS => ?_)
  subst had
  refine W.widen (k := 71) (n := 1945) (Nat.le_of_ble_eq_true rfl) (Nat.le_of_ble_eq_true rfl) ?_
  clear hP hD hP9 hD9
  have hP : va_P G.1 vwCl (wRR G a1 0 (rrStart 4 8 zRR)) H := by rw [List.append_nil] at hPn; exact hPn
  have hD : va_D (fun q : Nat => s.heap.size ≤ q) (wRR G a1 0 (rrStart 4 8 zRR)) := by rw [List.append_nil] at hDn; exact hDn
  clear hPn hDn
  refine lv_astore_n (lv' := [(1, .ref (a1 0)), (0, .ref b)]) hx hb dL_law_7 rfl hl (by decide) rfl (fun ls hl => ?_)
  refine va_new (ci := 6) (fs := [.null, .null, .null, .null, .int 0]) (C := RX6) (T := TX6) (N := 5) hx hb hts0 inX6 tyX6 tyX6_ok hown (hts0 (.classLink RL 8 RX6) (List.mem_append_right _ (List.mem_of_getElem? (i := 15) (by decide +kernel)))) (hts0 (.instantiable RX6 5) (List.mem_append_right _ (List.mem_of_getElem? (i := 16) (by decide +kernel)))) (hts0 (.initialized RX6) (List.mem_append_right _ (List.mem_of_getElem? (i := 1) (by decide +kernel)))) hY.1 hP hD hS hA rfl (fun j hj => by rcases (show j = 0 ∨ j = 1 ∨ j = 2 ∨ j = 3 ∨ j = 4 by omega) with rfl | rfl | rfl | rfl | rfl <;> rfl) (Nat.le_of_ble_eq_true rfl) (Nat.le_of_ble_eq_true rfl) dL_law_8 (fun q2 H hP hD hS => ?_)
  have hP9 : va_P G.1 vwCl ((wRR G a1 0 (rrStart 4 8 zRR)) ++ (([(q2, .inr (6, [.null, .null, .null, .null, .int 0]))] : va_W) ++ [])) H := by rw [List.append_nil]; exact hP
  have hD9 : va_D (fun q : Nat => s.heap.size ≤ q) ((wRR G a1 0 (rrStart 4 8 zRR)) ++ (([(q2, .inr (6, [.null, .null, .null, .null, .int 0]))] : va_W) ++ [])) := by rw [List.append_nil]; exact hD
  refine W.widen (k := 72) (n := 1950) (Nat.le_of_ble_eq_true rfl) (Nat.le_of_ble_eq_true rfl) ?_
  refine lv_dup hx hb dL_law_11 rfl ?_
  refine ctI (rest := [.ref q2]) (wRR G a1 0 (rrStart 4 8 zRR)) [] q2 CF (kc_X6_init l G) (cwI 0 hts gL_law_X6_init rfl rfl rfl (hts0 (.initialized RX6) (List.mem_append_right _ (List.mem_of_getElem? (i := 1) (by decide +kernel)))) (hts0 (.methodLink RL 169 yX6_init) (List.mem_append_right _ (List.mem_of_getElem? (i := 17) (by decide +kernel)))) (hts0 (.instanceMethod yX6_init) (List.mem_append_right _ (List.mem_of_getElem? (i := 18) (by decide +kernel)))) rfl (by decide +kernel) ⟨(Nat.le_of_ble_eq_true rfl), (Nat.le_of_ble_eq_true rfl)⟩) hP9 hD9 hS hA hY hl.1 rfl (lv_room (Nat.le_of_ble_eq_true rfl)) dL_law_12 ⟨(Nat.le_of_ble_eq_true rfl), (Nat.le_of_ble_eq_true rfl)⟩ (fun a2 H locs had hPn hDn hS => ?_)
  subst had
  refine W.widen (k := 142) (n := 3890) (Nat.le_of_ble_eq_true rfl) (Nat.le_of_ble_eq_true rfl) ?_
  clear hP hD hP9 hD9
  have hP : va_P G.1 vwCl ((wRR G a1 0 (rrStart 4 8 zRR)) ++ (wRR G a2 0 (rrStart 4 8 zRR))) H := by rw [List.append_nil] at hPn; exact hPn
  have hD : va_D (fun q : Nat => s.heap.size ≤ q) ((wRR G a1 0 (rrStart 4 8 zRR)) ++ (wRR G a2 0 (rrStart 4 8 zRR))) := by rw [List.append_nil] at hDn; exact hDn
  clear hPn hDn
  refine lv_astore_n (lv' := [(2, .ref (a2 0)), (1, .ref (a1 0)), (0, .ref b)]) hx hb dL_law_15 rfl hl (by decide) rfl (fun ls hl => ?_)
  refine va_new (ci := 6) (fs := [.null, .null, .null, .null, .int 0]) (C := RX6) (T := TX6) (N := 5) hx hb hts0 inX6 tyX6 tyX6_ok hown (hts0 (.classLink RL 8 RX6) (List.mem_append_right _ (List.mem_of_getElem? (i := 15) (by decide +kernel)))) (hts0 (.instantiable RX6 5) (List.mem_append_right _ (List.mem_of_getElem? (i := 16) (by decide +kernel)))) (hts0 (.initialized RX6) (List.mem_append_right _ (List.mem_of_getElem? (i := 1) (by decide +kernel)))) hY.1 hP hD hS hA rfl (fun j hj => by rcases (show j = 0 ∨ j = 1 ∨ j = 2 ∨ j = 3 ∨ j = 4 by omega) with rfl | rfl | rfl | rfl | rfl <;> rfl) (Nat.le_of_ble_eq_true rfl) (Nat.le_of_ble_eq_true rfl) dL_law_16 (fun q3 H hP hD hS => ?_)
  have hP9 : va_P G.1 vwCl (((wRR G a1 0 (rrStart 4 8 zRR)) ++ (wRR G a2 0 (rrStart 4 8 zRR))) ++ (([(q3, .inr (6, [.null, .null, .null, .null, .int 0]))] : va_W) ++ [])) H := by rw [List.append_nil]; exact hP
  have hD9 : va_D (fun q : Nat => s.heap.size ≤ q) (((wRR G a1 0 (rrStart 4 8 zRR)) ++ (wRR G a2 0 (rrStart 4 8 zRR))) ++ (([(q3, .inr (6, [.null, .null, .null, .null, .int 0]))] : va_W) ++ [])) := by rw [List.append_nil]; exact hD
  refine W.widen (k := 143) (n := 3895) (Nat.le_of_ble_eq_true rfl) (Nat.le_of_ble_eq_true rfl) ?_
  refine lv_dup hx hb dL_law_19 rfl ?_
  refine ctI (rest := [.ref q3]) ((wRR G a1 0 (rrStart 4 8 zRR)) ++ (wRR G a2 0 (rrStart 4 8 zRR))) [] q3 CF (kc_X6_init l G) (cwI 0 hts gL_law_X6_init rfl rfl rfl (hts0 (.initialized RX6) (List.mem_append_right _ (List.mem_of_getElem? (i := 1) (by decide +kernel)))) (hts0 (.methodLink RL 169 yX6_init) (List.mem_append_right _ (List.mem_of_getElem? (i := 17) (by decide +kernel)))) (hts0 (.instanceMethod yX6_init) (List.mem_append_right _ (List.mem_of_getElem? (i := 18) (by decide +kernel)))) rfl (by decide +kernel) ⟨(Nat.le_of_ble_eq_true rfl), (Nat.le_of_ble_eq_true rfl)⟩) hP9 hD9 hS hA hY hl.1 rfl (lv_room (Nat.le_of_ble_eq_true rfl)) dL_law_20 ⟨(Nat.le_of_ble_eq_true rfl), (Nat.le_of_ble_eq_true rfl)⟩ (fun a3 H locs had hPn hDn hS => ?_)
  subst had
  refine W.widen (k := 213) (n := 5835) (Nat.le_of_ble_eq_true rfl) (Nat.le_of_ble_eq_true rfl) ?_
  clear hP hD hP9 hD9
  have hP : va_P G.1 vwCl ((wRR G a1 0 (rrStart 4 8 zRR)) ++ ((wRR G a2 0 (rrStart 4 8 zRR)) ++ (wRR G a3 0 (rrStart 4 8 zRR)))) H := by rw [List.append_nil, List.append_assoc] at hPn; exact hPn
  have hD : va_D (fun q : Nat => s.heap.size ≤ q) ((wRR G a1 0 (rrStart 4 8 zRR)) ++ ((wRR G a2 0 (rrStart 4 8 zRR)) ++ (wRR G a3 0 (rrStart 4 8 zRR)))) := by rw [List.append_nil, List.append_assoc] at hDn; exact hDn
  clear hPn hDn
  refine lv_astore_n (lv' := [(3, .ref (a3 0)), (2, .ref (a2 0)), (1, .ref (a1 0)), (0, .ref b)]) hx hb dL_law_23 rfl hl (by decide) rfl (fun ls hl => ?_)
  refine lv_aload_n hx hb dL_law_24 rfl (lv_at hl 3 rfl) ?_
  refine lv_iconst (v := 0) hx hb dL_law_25 (by decide) ?_
  refine rd_go (va_runS CF (k_L_drawn l b L xs 0 2147483599 (hnl 0 0 (by decide +kernel) (by decide)) (by rintro (h | h); exact absurd h (by decide); rw [show (0 : Int32).toNatClampNeg = 0 from by decide +kernel] at h; omega) (by rw [show (0 : Int32).toNatClampNeg = 0 from by decide +kernel, x0]; decide +kernel)) (va_cwS 2 hts gL_law_L_drawn rfl rfl rfl (by decide +kernel) ⟨Nat.le_of_ble_eq_true rfl, Nat.le_of_ble_eq_true rfl⟩) ⟨DPc.blind, fun U hU hW => ⟨rfl, by show va_X b L xs U U.heap; rw [hU]; exact (hX.kept (hS.2.1 b hbl hbA)).moved hW.alike⟩⟩ (As := [.ref b, .int 0]) (rest := []) rfl rfl hl.1 rfl (lv_room (Nat.le_of_ble_eq_true rfl)) dL_law_26 ⟨Nat.le_of_ble_eq_true rfl, Nat.le_of_ble_eq_true rfl⟩) ?_
  refine lv_istore (lv' := [(4, .int 2147483599), (3, .ref (a3 0)), (2, .ref (a2 0)), (1, .ref (a1 0)), (0, .ref b)]) hx hb dL_law_29 hl (by decide) rfl (fun ls hl => ?_)
  refine lv_iconst (v := 2) hx hb dL_law_31 (by decide) ?_
  refine lv_iload hx hb dL_law_32 (lv_at hl 0 rfl) ?_
  refine lv_bipush (v := 15) hx hb dL_law_34 (by decide) ?_
  refine lv_irem hx hb dL_law_36 (by decide) ?_
  rw [show (2147483599 - 2147483599 / 15 * 15 : Int32) = 4 from by decide +kernel]
  refine lv_iadd hx hb dL_law_37 ?_
  rw [show (2 + 4 : Int32) = 6 from by decide +kernel]
  refine lv_istore (lv' := [(5, .int 6), (4, .int 2147483599), (3, .ref (a3 0)), (2, .ref (a2 0)), (1, .ref (a1 0)), (0, .ref b)]) hx hb dL_law_38 hl (by decide) rfl (fun ls hl => ?_)
  refine lv_iconst (v := 1) hx hb dL_law_40 (by decide) ?_
  refine lv_iload hx hb dL_law_41 (lv_at hl 1 rfl) ?_
  refine lv_bipush (v := 15) hx hb dL_law_43 (by decide) ?_
  refine lv_idiv hx hb dL_law_45 (by decide) ?_
  rw [show (2147483599 / 15 : Int32) = 143165573 from by decide +kernel]
  refine lv_bipush (v := 64) hx hb dL_law_46 (by decide) ?_
  refine lv_irem hx hb dL_law_48 (by decide) ?_
  rw [show (143165573 - 143165573 / 64 * 64 : Int32) = 5 from by decide +kernel]
  refine lv_iadd hx hb dL_law_49 ?_
  rw [show (1 + 5 : Int32) = 6 from by decide +kernel]
  refine lv_istore (lv' := [(6, .int 6), (5, .int 6), (4, .int 2147483599), (3, .ref (a3 0)), (2, .ref (a2 0)), (1, .ref (a1 0)), (0, .ref b)]) hx hb dL_law_50 hl (by decide) rfl (fun ls hl => ?_)
  refine lv_bipush (v := 8) hx hb dL_law_52 (by decide) ?_
  refine lv_iload hx hb dL_law_54 (lv_at hl 2 rfl) ?_
  refine lv_sipush (v := 960) hx hb dL_law_56 (by decide) ?_
  refine lv_idiv hx hb dL_law_59 (by decide) ?_
  rw [show (2147483599 / 960 : Int32) = 2236962 from by decide +kernel]
  refine lv_bipush (v := 33) hx hb dL_law_60 (by decide) ?_
  refine lv_irem hx hb dL_law_62 (by decide) ?_
  rw [show (2236962 - 2236962 / 33 * 33 : Int32) = 24 from by decide +kernel]
  refine lv_iadd hx hb dL_law_63 ?_
  rw [show (8 + 24 : Int32) = 32 from by decide +kernel]
  refine lv_istore (lv' := [(7, .int 32), (6, .int 6), (5, .int 6), (4, .int 2147483599), (3, .ref (a3 0)), (2, .ref (a2 0)), (1, .ref (a1 0)), (0, .ref b)]) hx hb dL_law_64 hl (by decide) rfl (fun ls hl => ?_)
  refine lv_aload_n hx hb dL_law_66 rfl (lv_at hl 6 rfl) ?_
  refine lv_iload hx hb dL_law_67 (lv_at hl 2 rfl) ?_
  refine lv_iload hx hb dL_law_69 (lv_at hl 1 rfl) ?_
  refine ckS [] (wRR G a1 0 (rrStart 4 8 zRR)) ((wRR G a2 0 (rrStart 4 8 zRR)) ++ (wRR G a3 0 (rrStart 4 8 zRR))) (wRR G a1 0 (rrStart 6 6 (rrStart 4 8 zRR))) (As := [.ref (a1 0), .int 6, .int 6]) (rest := []) CF (k_L_begun l G a1 0 (rrStart 4 8 zRR) 6 6 (by decide +kernel) (by decide +kernel)) (vx_cwSW 3 hts gL_law_L_begun rfl rfl rfl (by decide +kernel) ⟨Nat.le_of_ble_eq_true rfl, Nat.le_of_ble_eq_true rfl⟩) hP hD hS hA hY hZ (fst_RR _ _ _ _ _) rfl hl.1 rfl (lv_room (Nat.le_of_ble_eq_true rfl)) dL_law_71 ⟨Nat.le_of_ble_eq_true rfl, Nat.le_of_ble_eq_true rfl⟩ (fun H locs hP1 hD1 hS1 hg9 => ?_)
  refine W.widen (k := 214) (n := 5841) (Nat.le_of_ble_eq_true rfl) (Nat.le_of_ble_eq_true rfl) ?_
  clear hP hD hS hg9
  have hP : va_P G.1 vwCl ((wRR G a1 0 (rrStart 6 6 (rrStart 4 8 zRR))) ++ ((wRR G a2 0 (rrStart 4 8 zRR)) ++ (wRR G a3 0 (rrStart 4 8 zRR)))) H := hP1
  have hD : va_D (fun q : Nat => s.heap.size ≤ q) ((wRR G a1 0 (rrStart 6 6 (rrStart 4 8 zRR))) ++ ((wRR G a2 0 (rrStart 4 8 zRR)) ++ (wRR G a3 0 (rrStart 4 8 zRR)))) := hD1
  have hS : va_S (fun q : Nat => s.heap.size ≤ q) s.heap H locs := hS1
  clear hP1 hD1 hS1
  refine lv_if_ne (tgt := 103) hx hb dL_law_74 (by decide) (fun h => absurd h (by decide +kernel)) (fun _ => ?_)
  refine lv_aload_n hx hb dL_law_77 rfl (lv_at hl 5 rfl) ?_
  refine lv_iload hx hb dL_law_78 (lv_at hl 2 rfl) ?_
  refine lv_iload hx hb dL_law_80 (lv_at hl 1 rfl) ?_
  refine ckS (wRR G a1 0 (rrStart 6 6 (rrStart 4 8 zRR))) (wRR G a2 0 (rrStart 4 8 zRR)) (wRR G a3 0 (rrStart 4 8 zRR)) (wRR G a2 0 (rrStart 6 6 (rrStart 4 8 zRR))) (As := [.ref (a2 0), .int 6, .int 6]) (rest := []) CF (k_L_begun l G a2 0 (rrStart 4 8 zRR) 6 6 (by decide +kernel) (by decide +kernel)) (vx_cwSW 3 hts gL_law_L_begun rfl rfl rfl (by decide +kernel) ⟨Nat.le_of_ble_eq_true rfl, Nat.le_of_ble_eq_true rfl⟩) hP hD hS hA hY hZ (fst_RR _ _ _ _ _) rfl hl.1 rfl (lv_room (Nat.le_of_ble_eq_true rfl)) dL_law_82 ⟨Nat.le_of_ble_eq_true rfl, Nat.le_of_ble_eq_true rfl⟩ (fun H locs hP1 hD1 hS1 hg9 => ?_)
  refine W.widen (k := 215) (n := 5847) (Nat.le_of_ble_eq_true rfl) (Nat.le_of_ble_eq_true rfl) ?_
  clear hP hD hS hg9
  have hP : va_P G.1 vwCl ((wRR G a1 0 (rrStart 6 6 (rrStart 4 8 zRR))) ++ ((wRR G a2 0 (rrStart 6 6 (rrStart 4 8 zRR))) ++ (wRR G a3 0 (rrStart 4 8 zRR)))) H := hP1
  have hD : va_D (fun q : Nat => s.heap.size ≤ q) ((wRR G a1 0 (rrStart 6 6 (rrStart 4 8 zRR))) ++ ((wRR G a2 0 (rrStart 6 6 (rrStart 4 8 zRR))) ++ (wRR G a3 0 (rrStart 4 8 zRR)))) := hD1
  have hS : va_S (fun q : Nat => s.heap.size ≤ q) s.heap H locs := hS1
  clear hP1 hD1 hS1
  refine lv_if_ne (tgt := 103) hx hb dL_law_85 (by decide) (fun h => absurd h (by decide +kernel)) (fun _ => ?_)
  refine lv_aload_n hx hb dL_law_88 rfl (lv_at hl 4 rfl) ?_
  refine lv_iload hx hb dL_law_89 (lv_at hl 2 rfl) ?_
  refine lv_iload hx hb dL_law_91 (lv_at hl 1 rfl) ?_
  have hP9 : va_P G.1 vwCl (((wRR G a1 0 (rrStart 6 6 (rrStart 4 8 zRR))) ++ (wRR G a2 0 (rrStart 6 6 (rrStart 4 8 zRR)))) ++ ((wRR G a3 0 (rrStart 4 8 zRR)) ++ [])) H := by rw [List.append_nil, List.append_assoc]; exact hP
  have hD9 : va_D (fun q : Nat => s.heap.size ≤ q) (((wRR G a1 0 (rrStart 6 6 (rrStart 4 8 zRR))) ++ (wRR G a2 0 (rrStart 6 6 (rrStart 4 8 zRR)))) ++ ((wRR G a3 0 (rrStart 4 8 zRR)) ++ [])) := by rw [List.append_nil, List.append_assoc]; exact hD
  refine ckS ((wRR G a1 0 (rrStart 6 6 (rrStart 4 8 zRR))) ++ (wRR G a2 0 (rrStart 6 6 (rrStart 4 8 zRR)))) (wRR G a3 0 (rrStart 4 8 zRR)) [] (wRR G a3 0 (rrStart 6 6 (rrStart 4 8 zRR))) (As := [.ref (a3 0), .int 6, .int 6]) (rest := []) CF (k_L_begun l G a3 0 (rrStart 4 8 zRR) 6 6 (by decide +kernel) (by decide +kernel)) (vx_cwSW 3 hts gL_law_L_begun rfl rfl rfl (by decide +kernel) ⟨Nat.le_of_ble_eq_true rfl, Nat.le_of_ble_eq_true rfl⟩) hP9 hD9 hS hA hY hZ (fst_RR _ _ _ _ _) rfl hl.1 rfl (lv_room (Nat.le_of_ble_eq_true rfl)) dL_law_93 ⟨Nat.le_of_ble_eq_true rfl, Nat.le_of_ble_eq_true rfl⟩ (fun H locs hP1 hD1 hS1 hg9 => ?_)
  refine W.widen (k := 216) (n := 5853) (Nat.le_of_ble_eq_true rfl) (Nat.le_of_ble_eq_true rfl) ?_
  clear hP hD hS hg9 hP9 hD9
  have hP : va_P G.1 vwCl ((wRR G a1 0 (rrStart 6 6 (rrStart 4 8 zRR))) ++ ((wRR G a2 0 (rrStart 6 6 (rrStart 4 8 zRR))) ++ (wRR G a3 0 (rrStart 6 6 (rrStart 4 8 zRR))))) H := by rw [List.append_nil, List.append_assoc] at hP1; exact hP1
  have hD : va_D (fun q : Nat => s.heap.size ≤ q) ((wRR G a1 0 (rrStart 6 6 (rrStart 4 8 zRR))) ++ ((wRR G a2 0 (rrStart 6 6 (rrStart 4 8 zRR))) ++ (wRR G a3 0 (rrStart 6 6 (rrStart 4 8 zRR))))) := by rw [List.append_nil, List.append_assoc] at hD1; exact hD1
  have hS : va_S (fun q : Nat => s.heap.size ≤ q) s.heap H locs := hS1
  clear hP1 hD1 hS1
  refine lv_if_ne (tgt := 103) hx hb dL_law_96 (by decide) (fun h => absurd h (by decide +kernel)) (fun _ => ?_)
  refine lv_iconst (v := 1) hx hb dL_law_99 (by decide) ?_
  refine lv_goto (tgt := 104) hx hb dL_law_100 (by decide) ?_
  refine lv_istore (lv' := [(8, .int 1), (7, .int 32), (6, .int 6), (5, .int 6), (4, .int 2147483599), (3, .ref (a3 0)), (2, .ref (a2 0)), (1, .ref (a1 0)), (0, .ref b)]) hx hb dL_law_104 hl (by decide) rfl (fun ls hl => ?_)
  refine lv_iconst (v := 0) hx hb dL_law_106 (by decide) ?_
  refine lv_istore (lv' := [(9, .int 0), (8, .int 1), (7, .int 32), (6, .int 6), (5, .int 6), (4, .int 2147483599), (3, .ref (a3 0)), (2, .ref (a2 0)), (1, .ref (a1 0)), (0, .ref b)]) hx hb dL_law_107 hl (by decide) rfl (fun ls hl => ?_)
  refine lv_iload hx hb dL_law_109 (lv_at hl 0 rfl) ?_
  refine lv_iconst (v := 2) hx hb dL_law_111 (by decide) ?_
  refine lv_icmp_ge (tgt := 445) hx hb dL_law_112 (by decide) (fun h => absurd h (by decide +kernel)) (fun _ => ?_)
  refine lv_iconst (v := 0) hx hb dL_law_115 (by decide) ?_
  refine lv_istore (lv' := [(10, .int 0), (9, .int 0), (8, .int 1), (7, .int 32), (6, .int 6), (5, .int 6), (4, .int 2147483599), (3, .ref (a3 0)), (2, .ref (a2 0)), (1, .ref (a1 0)), (0, .ref b)]) hx hb dL_law_116 hl (by decide) rfl (fun ls hl => ?_)
  refine lv_iload hx hb dL_law_118 (lv_at hl 0 rfl) ?_
  refine lv_iload hx hb dL_law_120 (lv_at hl 3 rfl) ?_
  refine lv_icmp_ge (tgt := 439) hx hb dL_law_122 (by decide) (fun h => absurd h (by decide +kernel)) (fun _ => ?_)
  refine lv_iload hx hb dL_law_125 (lv_at hl 2 rfl) ?_
  refine lv_if_eq (tgt := 439) hx hb dL_law_127 (by decide) (fun h => absurd h (by decide +kernel)) (fun _ => ?_)
  refine lv_aload_n hx hb dL_law_130 rfl (lv_at hl 10 rfl) ?_
  refine lv_iconst (v := 1) hx hb dL_law_131 (by decide) ?_
  refine lv_iload hx hb dL_law_132 (lv_at hl 0 rfl) ?_
  refine lv_iadd hx hb dL_law_134 ?_
  rw [show (1 + 0 : Int32) = 1 from by decide +kernel]
  refine rd_go (va_runS CF (k_L_drawn l b L xs 1 2147483636 (hnl 1 1 (by decide +kernel) (by decide)) (by rintro (h | h); exact absurd h (by decide); rw [show (1 : Int32).toNatClampNeg = 1 from by decide +kernel] at h; omega) (by rw [show (1 : Int32).toNatClampNeg = 1 from by decide +kernel, x1]; decide +kernel)) (va_cwS 2 hts gL_law_L_drawn rfl rfl rfl (by decide +kernel) ⟨Nat.le_of_ble_eq_true rfl, Nat.le_of_ble_eq_true rfl⟩) ⟨DPc.blind, fun U hU hW => ⟨rfl, by show va_X b L xs U U.heap; rw [hU]; exact (hX.kept (hS.2.1 b hbl hbA)).moved hW.alike⟩⟩ (As := [.ref b, .int 1]) (rest := []) rfl rfl hl.1 rfl (lv_room (Nat.le_of_ble_eq_true rfl)) dL_law_135 ⟨Nat.le_of_ble_eq_true rfl, Nat.le_of_ble_eq_true rfl⟩) ?_
  refine lv_istore (lv' := [(11, .int 2147483636), (10, .int 0), (9, .int 0), (8, .int 1), (7, .int 32), (6, .int 6), (5, .int 6), (4, .int 2147483599), (3, .ref (a3 0)), (2, .ref (a2 0)), (1, .ref (a1 0)), (0, .ref b)]) hx hb dL_law_138 hl (by decide) rfl (fun ls hl => ?_)
  refine lv_aload_n hx hb dL_law_140 rfl (lv_at hl 11 rfl) ?_
  refine lv_iconst (v := 1) hx hb dL_law_141 (by decide) ?_
  refine lv_iload hx hb dL_law_142 (lv_at hl 4 rfl) ?_
  refine lv_iadd hx hb dL_law_144 ?_
  rw [show (1 + 32 : Int32) = 33 from by decide +kernel]
  refine lv_iload hx hb dL_law_145 (lv_at hl 1 rfl) ?_
  refine lv_iadd hx hb dL_law_147 ?_
  rw [show (33 + 0 : Int32) = 33 from by decide +kernel]
  refine rd_go (va_runS CF (k_L_drawn l b L xs 33 168 (hnl 33 33 (by decide +kernel) (by decide)) (by rintro (h | h); exact absurd h (by decide); rw [show (33 : Int32).toNatClampNeg = 33 from by decide +kernel] at h; omega) (by rw [show (33 : Int32).toNatClampNeg = 33 from by decide +kernel, x33]; decide +kernel)) (va_cwS 2 hts gL_law_L_drawn rfl rfl rfl (by decide +kernel) ⟨Nat.le_of_ble_eq_true rfl, Nat.le_of_ble_eq_true rfl⟩) ⟨DPc.blind, fun U hU hW => ⟨rfl, by show va_X b L xs U U.heap; rw [hU]; exact (hX.kept (hS.2.1 b hbl hbA)).moved hW.alike⟩⟩ (As := [.ref b, .int 33]) (rest := []) rfl rfl hl.1 rfl (lv_room (Nat.le_of_ble_eq_true rfl)) dL_law_148 ⟨Nat.le_of_ble_eq_true rfl, Nat.le_of_ble_eq_true rfl⟩) ?_
  refine lv_istore (lv' := [(12, .int 168), (11, .int 2147483636), (10, .int 0), (9, .int 0), (8, .int 1), (7, .int 32), (6, .int 6), (5, .int 6), (4, .int 2147483599), (3, .ref (a3 0)), (2, .ref (a2 0)), (1, .ref (a1 0)), (0, .ref b)]) hx hb dL_law_151 hl (by decide) rfl (fun ls hl => ?_)
  refine lv_iload hx hb dL_law_153 (lv_at hl 0 rfl) ?_
  refine lv_iconst (v := 2) hx hb dL_law_155 (by decide) ?_
  refine lv_irem hx hb dL_law_156 (by decide) ?_
  rw [show (168 - 168 / 2 * 2 : Int32) = 0 from by decide +kernel]
  refine lv_iload hx hb dL_law_157 (lv_at hl 3 rfl) ?_
  refine lv_icmp_ne (tgt := 433) hx hb dL_law_159 (by decide) (fun h => absurd h (by decide +kernel)) (fun _ => ?_)
  refine lv_iload hx hb dL_law_162 (lv_at hl 1 rfl) ?_
  refine lv_iconst (v := 2) hx hb dL_law_164 (by decide) ?_
  refine lv_irem hx hb dL_law_165 (by decide) ?_
  rw [show (2147483636 - 2147483636 / 2 * 2 : Int32) = 0 from by decide +kernel]
  refine lv_if_ne (tgt := 179) hx hb dL_law_166 (by decide) (fun h => absurd h (by decide +kernel)) (fun _ => ?_)
  refine lv_iload hx hb dL_law_169 (lv_at hl 1 rfl) ?_
  refine lv_iconst (v := 2) hx hb dL_law_171 (by decide) ?_
  refine lv_idiv hx hb dL_law_172 (by decide) ?_
  rw [show (2147483636 / 2 : Int32) = 1073741818 from by decide +kernel]
  refine lv_bipush (v := 9) hx hb dL_law_173 (by decide) ?_
  refine lv_irem hx hb dL_law_175 (by decide) ?_
  rw [show (1073741818 - 1073741818 / 9 * 9 : Int32) = 4 from by decide +kernel]
  refine lv_goto (tgt := 186) hx hb dL_law_176 (by decide) ?_
  refine lv_istore (lv' := [(13, .int 4), (12, .int 168), (11, .int 2147483636), (10, .int 0), (9, .int 0), (8, .int 1), (7, .int 32), (6, .int 6), (5, .int 6), (4, .int 2147483599), (3, .ref (a3 0)), (2, .ref (a2 0)), (1, .ref (a1 0)), (0, .ref b)]) hx hb dL_law_186 hl (by decide) rfl (fun ls hl => ?_)
  refine lv_iload hx hb dL_law_188 (lv_at hl 1 rfl) ?_
  refine lv_iconst (v := 3) hx hb dL_law_190 (by decide) ?_
  refine lv_irem hx hb dL_law_191 (by decide) ?_
  rw [show (168 - 168 / 3 * 3 : Int32) = 0 from by decide +kernel]
  refine lv_if_ne (tgt := 206) hx hb dL_law_192 (by decide) (fun h => absurd h (by decide +kernel)) (fun _ => ?_)
  refine lv_iconst (v := 1) hx hb dL_law_195 (by decide) ?_
  refine lv_iload hx hb dL_law_196 (lv_at hl 1 rfl) ?_
  refine lv_iconst (v := 3) hx hb dL_law_198 (by decide) ?_
  refine lv_idiv hx hb dL_law_199 (by decide) ?_
  rw [show (168 / 3 : Int32) = 56 from by decide +kernel]
  refine lv_iconst (v := 5) hx hb dL_law_200 (by decide) ?_
  refine lv_irem hx hb dL_law_201 (by decide) ?_
  rw [show (56 - 56 / 5 * 5 : Int32) = 1 from by decide +kernel]
  refine lv_iadd hx hb dL_law_202 ?_
  rw [show (1 + 1 : Int32) = 2 from by decide +kernel]
  refine lv_goto (tgt := 215) hx hb dL_law_203 (by decide) ?_
  refine lv_istore (lv' := [(14, .int 2), (13, .int 4), (12, .int 168), (11, .int 2147483636), (10, .int 0), (9, .int 0), (8, .int 1), (7, .int 32), (6, .int 6), (5, .int 6), (4, .int 2147483599), (3, .ref (a3 0)), (2, .ref (a2 0)), (1, .ref (a1 0)), (0, .ref b)]) hx hb dL_law_215 hl (by decide) rfl (fun ls hl => ?_)
  refine lv_iload hx hb dL_law_217 (lv_at hl 3 rfl) ?_
  refine lv_iconst (v := 5) hx hb dL_law_219 (by decide) ?_
  refine lv_irem hx hb dL_law_220 (by decide) ?_
  rw [show (2147483636 - 2147483636 / 5 * 5 : Int32) = 1 from by decide +kernel]
  refine lv_if_ne (tgt := 234) hx hb dL_law_221 (by decide) (fun _ => ?_) (fun h => absurd h (by decide +kernel))
  refine lv_iload hx hb dL_law_234 (lv_at hl 3 rfl) ?_
  refine lv_istore (lv' := [(15, .int 2147483636), (14, .int 2), (13, .int 4), (12, .int 168), (11, .int 2147483636), (10, .int 0), (9, .int 0), (8, .int 1), (7, .int 32), (6, .int 6), (5, .int 6), (4, .int 2147483599), (3, .ref (a3 0)), (2, .ref (a2 0)), (1, .ref (a1 0)), (0, .ref b)]) hx hb dL_law_236 hl (by decide) rfl (fun ls hl => ?_)
  refine lv_aload_n hx hb dL_law_238 rfl (lv_at hl 14 rfl) ?_
  refine lv_iload hx hb dL_law_239 (lv_at hl 6 rfl) ?_
  refine ckS [] (wRR G a1 0 (rrStart 6 6 (rrStart 4 8 zRR))) ((wRR G a2 0 (rrStart 6 6 (rrStart 4 8 zRR))) ++ (wRR G a3 0 (rrStart 6 6 (rrStart 4 8 zRR)))) (wRR G a1 0 (rrStart 6 6 (rrStart 4 8 zRR))) (As := [.ref (a1 0), .int 0]) (rest := []) CF (k_L_offers l G a1 0 (rrStart 6 6 (rrStart 4 8 zRR)) 0 (by decide +kernel)) (vx_cwSW 2 hts gL_law_L_offers rfl rfl rfl (by decide +kernel) ⟨Nat.le_of_ble_eq_true rfl, Nat.le_of_ble_eq_true rfl⟩) hP hD hS hA hY hZ (fst_RR _ _ _ _ _) rfl hl.1 rfl (lv_room (Nat.le_of_ble_eq_true rfl)) dL_law_241 ⟨Nat.le_of_ble_eq_true rfl, Nat.le_of_ble_eq_true rfl⟩ (fun H locs hP1 hD1 hS1 hg9 => ?_)
  refine W.widen (k := 217) (n := 5859) (Nat.le_of_ble_eq_true rfl) (Nat.le_of_ble_eq_true rfl) ?_
  clear hP hD hS hg9
  have hP : va_P G.1 vwCl ((wRR G a1 0 (rrStart 6 6 (rrStart 4 8 zRR))) ++ ((wRR G a2 0 (rrStart 6 6 (rrStart 4 8 zRR))) ++ (wRR G a3 0 (rrStart 6 6 (rrStart 4 8 zRR))))) H := hP1
  have hD : va_D (fun q : Nat => s.heap.size ≤ q) ((wRR G a1 0 (rrStart 6 6 (rrStart 4 8 zRR))) ++ ((wRR G a2 0 (rrStart 6 6 (rrStart 4 8 zRR))) ++ (wRR G a3 0 (rrStart 6 6 (rrStart 4 8 zRR))))) := hD1
  have hS : va_S (fun q : Nat => s.heap.size ≤ q) s.heap H locs := hS1
  clear hP1 hD1 hS1
  rw [eA]
  refine lv_iconst (v := 1) hx hb dL_law_244 (by decide) ?_
  refine lv_iadd hx hb dL_law_245 ?_
  rw [show (0 + 1 : Int32) = 1 from by decide +kernel]
  refine lv_istore (lv' := [(16, .int 1), (15, .int 2147483636), (14, .int 2), (13, .int 4), (12, .int 168), (11, .int 2147483636), (10, .int 0), (9, .int 0), (8, .int 1), (7, .int 32), (6, .int 6), (5, .int 6), (4, .int 2147483599), (3, .ref (a3 0)), (2, .ref (a2 0)), (1, .ref (a1 0)), (0, .ref b)]) hx hb dL_law_246 hl (by decide) rfl (fun ls hl => ?_)
  refine lv_aload_n hx hb dL_law_248 rfl (lv_at hl 14 rfl) ?_
  refine lv_iload hx hb dL_law_249 (lv_at hl 11 rfl) ?_
  refine lv_iload hx hb dL_law_251 (lv_at hl 5 rfl) ?_
  refine lv_sipush (v := 997) hx hb dL_law_253 (by decide) ?_
  refine lv_irem hx hb dL_law_256 (by decide) ?_
  rw [show (2147483636 - 2147483636 / 997 * 997 : Int32) = 471 from by decide +kernel]
  have hg : s.heap.size + 213 ≤ H.size := room_of hP hD hS.1
  refine ckS0 (wRR G a1 0 (rrStart 6 6 (rrStart 4 8 zRR))) (wRR G a2 0 (rrStart 6 6 (rrStart 4 8 zRR))) (wRR G a3 0 (rrStart 6 6 (rrStart 4 8 zRR))) (wRR G a2 0 (rrMD (rrMD (rrMP (rrMP (rrStart 6 6 (rrStart 4 8 zRR)) 2) 0) 2) 1)) (As := [.ref (a2 0), .int 6, .int 471]) (rest := []) CF (k_L_refuses l hl0 G a2 0 (rrStart 6 6 (rrStart 4 8 zRR)) 6 471 54 57 (Or.inr ⟨by decide +kernel, by decide +kernel, by decide +kernel⟩) (by decide +kernel) (by decide +kernel) (by decide +kernel) (by decide +kernel) (by decide +kernel) (by decide +kernel) p1 p2 p3 p4 p5 p6 p7) (va_cwS 3 hts gL_law_L_refuses rfl rfl rfl (by decide +kernel) ⟨Nat.le_of_ble_eq_true rfl, Nat.le_of_ble_eq_true rfl⟩) hP hD hS hA hY hZ (fst_RR _ _ _ _ _) rfl hl.1 rfl (lv_room (Nat.le_of_ble_eq_true rfl)) dL_law_257 ⟨Nat.le_of_ble_eq_true rfl, Nat.le_of_ble_eq_true rfl⟩ (fun H locs hP1 hD1 hS1 hg9 => ?_)
  refine W.widen (k := 258) (n := 6105) (Nat.le_of_ble_eq_true rfl) (Nat.le_of_ble_eq_true rfl) ?_
  have hg8 : s.heap.size + 254 ≤ H.size := Nat.le_trans (Nat.add_le_add_right hg 41) hg9
  clear hP hD hS hg9 hg
  have hP : va_P G.1 vwCl ((wRR G a1 0 (rrStart 6 6 (rrStart 4 8 zRR))) ++ ((wRR G a2 0 (rrMD (rrMD (rrMP (rrMP (rrStart 6 6 (rrStart 4 8 zRR)) 2) 0) 2) 1)) ++ (wRR G a3 0 (rrStart 6 6 (rrStart 4 8 zRR))))) H := hP1
  have hD : va_D (fun q : Nat => s.heap.size ≤ q) ((wRR G a1 0 (rrStart 6 6 (rrStart 4 8 zRR))) ++ ((wRR G a2 0 (rrMD (rrMD (rrMP (rrMP (rrStart 6 6 (rrStart 4 8 zRR)) 2) 0) 2) 1)) ++ (wRR G a3 0 (rrStart 6 6 (rrStart 4 8 zRR))))) := hD1
  have hS : va_S (fun q : Nat => s.heap.size ≤ q) s.heap H locs := hS1
  have hg : s.heap.size + 254 ≤ H.size := hg8
  clear hP1 hD1 hS1 hg8
  refine lv_if_eq (tgt := 430) hx hb dL_law_260 (by decide) (fun h => absurd h (by decide +kernel)) (fun _ => ?_)
  refine lv_aload_n hx hb dL_law_263 rfl (lv_at hl 15 rfl) ?_
  refine lv_iload hx hb dL_law_264 (lv_at hl 7 rfl) ?_
  refine lv_iload hx hb dL_law_266 (lv_at hl 3 rfl) ?_
  refine lv_iload hx hb dL_law_268 (lv_at hl 2 rfl) ?_
  refine lv_iload hx hb dL_law_270 (lv_at hl 5 rfl) ?_
  refine lv_iconst (v := 3) hx hb dL_law_272 (by decide) ?_
  refine lv_idiv hx hb dL_law_273 (by decide) ?_
  rw [show (2147483636 / 3 : Int32) = 715827878 from by decide +kernel]
  refine lv_iconst (v := 4) hx hb dL_law_274 (by decide) ?_
  refine lv_irem hx hb dL_law_275 (by decide) ?_
  rw [show (715827878 - 715827878 / 4 * 4 : Int32) = 2 from by decide +kernel]
  refine lv_iload hx hb dL_law_276 (lv_at hl 1 rfl) ?_
  refine lv_iload hx hb dL_law_278 (lv_at hl 4 rfl) ?_
  refine lv_iconst (v := 5) hx hb dL_law_280 (by decide) ?_
  refine lv_idiv hx hb dL_law_281 (by decide) ?_
  rw [show (168 / 5 : Int32) = 33 from by decide +kernel]
  refine ckS [] (wRR G a1 0 (rrStart 6 6 (rrStart 4 8 zRR))) ((wRR G a2 0 (rrMD (rrMD (rrMP (rrMP (rrStart 6 6 (rrStart 4 8 zRR)) 2) 0) 2) 1)) ++ (wRR G a3 0 (rrStart 6 6 (rrStart 4 8 zRR)))) (wRR G a1 0 (rrSet (rrStart 6 6 (rrStart 4 8 zRR)) 0 (strTake (rrStr (rrStart 6 6 (rrStart 4 8 zRR)) 0) 4 2 2 2147483636 33))) (As := [.ref (a1 0), .int 0, .int 4, .int 2, .int 2, .int 2147483636, .int 33]) (rest := []) CF (k_L_offered l G a1 0 (rrStart 6 6 (rrStart 4 8 zRR)) 0 4 2 2 2147483636 33 (by decide +kernel) (by decide +kernel) (by decide +kernel) (by decide +kernel) (by decide +kernel) (by decide +kernel) hsA) (vx_cwSW 7 hts gL_law_L_offered rfl rfl rfl (by decide +kernel) ⟨Nat.le_of_ble_eq_true rfl, Nat.le_of_ble_eq_true rfl⟩) hP hD hS hA hY hZ (fst_RR _ _ _ _ _) rfl hl.1 rfl (lv_room (Nat.le_of_ble_eq_true rfl)) dL_law_282 ⟨Nat.le_of_ble_eq_true rfl, Nat.le_of_ble_eq_true rfl⟩ (fun H locs hP1 hD1 hS1 hg9 => ?_)
  refine W.widen (k := 259) (n := 6111) (Nat.le_of_ble_eq_true rfl) (Nat.le_of_ble_eq_true rfl) ?_
  have hg8 : s.heap.size + 254 ≤ H.size := Nat.le_trans (Nat.add_le_add_right hg 0) hg9
  clear hP hD hS hg9 hg
  have hP : va_P G.1 vwCl ((wRR G a1 0 (rrSet (rrStart 6 6 (rrStart 4 8 zRR)) 0 (strTake (rrStr (rrStart 6 6 (rrStart 4 8 zRR)) 0) 4 2 2 2147483636 33))) ++ ((wRR G a2 0 (rrMD (rrMD (rrMP (rrMP (rrStart 6 6 (rrStart 4 8 zRR)) 2) 0) 2) 1)) ++ (wRR G a3 0 (rrStart 6 6 (rrStart 4 8 zRR))))) H := hP1
  have hD : va_D (fun q : Nat => s.heap.size ≤ q) ((wRR G a1 0 (rrSet (rrStart 6 6 (rrStart 4 8 zRR)) 0 (strTake (rrStr (rrStart 6 6 (rrStart 4 8 zRR)) 0) 4 2 2 2147483636 33))) ++ ((wRR G a2 0 (rrMD (rrMD (rrMP (rrMP (rrStart 6 6 (rrStart 4 8 zRR)) 2) 0) 2) 1)) ++ (wRR G a3 0 (rrStart 6 6 (rrStart 4 8 zRR))))) := hD1
  have hS : va_S (fun q : Nat => s.heap.size ≤ q) s.heap H locs := hS1
  have hg : s.heap.size + 254 ≤ H.size := hg8
  clear hP1 hD1 hS1 hg8
  rw [eTA]
  refine lv_iload hx hb dL_law_285 (lv_at hl 0 rfl) ?_
  refine lv_icmp_ne (tgt := 430) hx hb dL_law_287 (by decide) (fun h => absurd h (by decide +kernel)) (fun _ => ?_)
  refine lv_aload_n hx hb dL_law_290 rfl (lv_at hl 14 rfl) ?_
  refine lv_iload hx hb dL_law_291 (lv_at hl 7 rfl) ?_
  refine lv_iload hx hb dL_law_293 (lv_at hl 3 rfl) ?_
  refine lv_iload hx hb dL_law_295 (lv_at hl 2 rfl) ?_
  refine lv_iload hx hb dL_law_297 (lv_at hl 5 rfl) ?_
  refine lv_iconst (v := 3) hx hb dL_law_299 (by decide) ?_
  refine lv_idiv hx hb dL_law_300 (by decide) ?_
  rw [show (2147483636 / 3 : Int32) = 715827878 from by decide +kernel]
  refine lv_iconst (v := 4) hx hb dL_law_301 (by decide) ?_
  refine lv_irem hx hb dL_law_302 (by decide) ?_
  rw [show (715827878 - 715827878 / 4 * 4 : Int32) = 2 from by decide +kernel]
  refine lv_iload hx hb dL_law_303 (lv_at hl 1 rfl) ?_
  refine lv_iload hx hb dL_law_305 (lv_at hl 4 rfl) ?_
  refine lv_iconst (v := 5) hx hb dL_law_307 (by decide) ?_
  refine lv_idiv hx hb dL_law_308 (by decide) ?_
  rw [show (168 / 5 : Int32) = 33 from by decide +kernel]
  refine ckS (wRR G a1 0 (rrSet (rrStart 6 6 (rrStart 4 8 zRR)) 0 (strTake (rrStr (rrStart 6 6 (rrStart 4 8 zRR)) 0) 4 2 2 2147483636 33))) (wRR G a2 0 (rrMD (rrMD (rrMP (rrMP (rrStart 6 6 (rrStart 4 8 zRR)) 2) 0) 2) 1)) (wRR G a3 0 (rrStart 6 6 (rrStart 4 8 zRR))) (wRR G a2 0 (rrSet (rrMD (rrMD (rrMP (rrMP (rrStart 6 6 (rrStart 4 8 zRR)) 2) 0) 2) 1) 0 (strTake (rrStr (rrMD (rrMD (rrMP (rrMP (rrStart 6 6 (rrStart 4 8 zRR)) 2) 0) 2) 1) 0) 4 2 2 2147483636 33))) (As := [.ref (a2 0), .int 0, .int 4, .int 2, .int 2, .int 2147483636, .int 33]) (rest := []) CF (k_L_offered l G a2 0 (rrMD (rrMD (rrMP (rrMP (rrStart 6 6 (rrStart 4 8 zRR)) 2) 0) 2) 1) 0 4 2 2 2147483636 33 (by decide +kernel) (by decide +kernel) (by decide +kernel) (by decide +kernel) (by decide +kernel) (by decide +kernel) hsB) (vx_cwSW 7 hts gL_law_L_offered rfl rfl rfl (by decide +kernel) ⟨Nat.le_of_ble_eq_true rfl, Nat.le_of_ble_eq_true rfl⟩) hP hD hS hA hY hZ (fst_RR _ _ _ _ _) rfl hl.1 rfl (lv_room (Nat.le_of_ble_eq_true rfl)) dL_law_309 ⟨Nat.le_of_ble_eq_true rfl, Nat.le_of_ble_eq_true rfl⟩ (fun H locs hP1 hD1 hS1 hg9 => ?_)
  refine W.widen (k := 260) (n := 6117) (Nat.le_of_ble_eq_true rfl) (Nat.le_of_ble_eq_true rfl) ?_
  have hg8 : s.heap.size + 254 ≤ H.size := Nat.le_trans (Nat.add_le_add_right hg 0) hg9
  clear hP hD hS hg9 hg
  have hP : va_P G.1 vwCl ((wRR G a1 0 (rrSet (rrStart 6 6 (rrStart 4 8 zRR)) 0 (strTake (rrStr (rrStart 6 6 (rrStart 4 8 zRR)) 0) 4 2 2 2147483636 33))) ++ ((wRR G a2 0 (rrSet (rrMD (rrMD (rrMP (rrMP (rrStart 6 6 (rrStart 4 8 zRR)) 2) 0) 2) 1) 0 (strTake (rrStr (rrMD (rrMD (rrMP (rrMP (rrStart 6 6 (rrStart 4 8 zRR)) 2) 0) 2) 1) 0) 4 2 2 2147483636 33))) ++ (wRR G a3 0 (rrStart 6 6 (rrStart 4 8 zRR))))) H := hP1
  have hD : va_D (fun q : Nat => s.heap.size ≤ q) ((wRR G a1 0 (rrSet (rrStart 6 6 (rrStart 4 8 zRR)) 0 (strTake (rrStr (rrStart 6 6 (rrStart 4 8 zRR)) 0) 4 2 2 2147483636 33))) ++ ((wRR G a2 0 (rrSet (rrMD (rrMD (rrMP (rrMP (rrStart 6 6 (rrStart 4 8 zRR)) 2) 0) 2) 1) 0 (strTake (rrStr (rrMD (rrMD (rrMP (rrMP (rrStart 6 6 (rrStart 4 8 zRR)) 2) 0) 2) 1) 0) 4 2 2 2147483636 33))) ++ (wRR G a3 0 (rrStart 6 6 (rrStart 4 8 zRR))))) := hD1
  have hS : va_S (fun q : Nat => s.heap.size ≤ q) s.heap H locs := hS1
  have hg : s.heap.size + 254 ≤ H.size := hg8
  clear hP1 hD1 hS1 hg8
  rw [eTB]
  refine lv_iload hx hb dL_law_312 (lv_at hl 0 rfl) ?_
  refine lv_icmp_ne (tgt := 430) hx hb dL_law_314 (by decide) (fun h => absurd h (by decide +kernel)) (fun _ => ?_)
  refine lv_aload_n hx hb dL_law_317 rfl (lv_at hl 13 rfl) ?_
  refine lv_iconst (v := 0) hx hb dL_law_318 (by decide) ?_
  refine lv_iload hx hb dL_law_319 (lv_at hl 3 rfl) ?_
  refine lv_iload hx hb dL_law_321 (lv_at hl 2 rfl) ?_
  refine lv_iload hx hb dL_law_323 (lv_at hl 5 rfl) ?_
  refine lv_iconst (v := 3) hx hb dL_law_325 (by decide) ?_
  refine lv_idiv hx hb dL_law_326 (by decide) ?_
  rw [show (2147483636 / 3 : Int32) = 715827878 from by decide +kernel]
  refine lv_iconst (v := 4) hx hb dL_law_327 (by decide) ?_
  refine lv_irem hx hb dL_law_328 (by decide) ?_
  rw [show (715827878 - 715827878 / 4 * 4 : Int32) = 2 from by decide +kernel]
  refine lv_iload hx hb dL_law_329 (lv_at hl 1 rfl) ?_
  refine lv_iload hx hb dL_law_331 (lv_at hl 4 rfl) ?_
  refine lv_iconst (v := 5) hx hb dL_law_333 (by decide) ?_
  refine lv_idiv hx hb dL_law_334 (by decide) ?_
  rw [show (168 / 5 : Int32) = 33 from by decide +kernel]
  have hP9 : va_P G.1 vwCl (((wRR G a1 0 (rrSet (rrStart 6 6 (rrStart 4 8 zRR)) 0 (strTake (rrStr (rrStart 6 6 (rrStart 4 8 zRR)) 0) 4 2 2 2147483636 33))) ++ (wRR G a2 0 (rrSet (rrMD (rrMD (rrMP (rrMP (rrStart 6 6 (rrStart 4 8 zRR)) 2) 0) 2) 1) 0 (strTake (rrStr (rrMD (rrMD (rrMP (rrMP (rrStart 6 6 (rrStart 4 8 zRR)) 2) 0) 2) 1) 0) 4 2 2 2147483636 33)))) ++ ((wRR G a3 0 (rrStart 6 6 (rrStart 4 8 zRR))) ++ [])) H := by rw [List.append_nil, List.append_assoc]; exact hP
  have hD9 : va_D (fun q : Nat => s.heap.size ≤ q) (((wRR G a1 0 (rrSet (rrStart 6 6 (rrStart 4 8 zRR)) 0 (strTake (rrStr (rrStart 6 6 (rrStart 4 8 zRR)) 0) 4 2 2 2147483636 33))) ++ (wRR G a2 0 (rrSet (rrMD (rrMD (rrMP (rrMP (rrStart 6 6 (rrStart 4 8 zRR)) 2) 0) 2) 1) 0 (strTake (rrStr (rrMD (rrMD (rrMP (rrMP (rrStart 6 6 (rrStart 4 8 zRR)) 2) 0) 2) 1) 0) 4 2 2 2147483636 33)))) ++ ((wRR G a3 0 (rrStart 6 6 (rrStart 4 8 zRR))) ++ [])) := by rw [List.append_nil, List.append_assoc]; exact hD
  refine ckS ((wRR G a1 0 (rrSet (rrStart 6 6 (rrStart 4 8 zRR)) 0 (strTake (rrStr (rrStart 6 6 (rrStart 4 8 zRR)) 0) 4 2 2 2147483636 33))) ++ (wRR G a2 0 (rrSet (rrMD (rrMD (rrMP (rrMP (rrStart 6 6 (rrStart 4 8 zRR)) 2) 0) 2) 1) 0 (strTake (rrStr (rrMD (rrMD (rrMP (rrMP (rrStart 6 6 (rrStart 4 8 zRR)) 2) 0) 2) 1) 0) 4 2 2 2147483636 33)))) (wRR G a3 0 (rrStart 6 6 (rrStart 4 8 zRR))) [] (wRR G a3 0 (rrSet (rrStart 6 6 (rrStart 4 8 zRR)) 0 (strTake (rrStr (rrStart 6 6 (rrStart 4 8 zRR)) 0) 4 2 2 2147483636 33))) (As := [.ref (a3 0), .int 0, .int 4, .int 2, .int 2, .int 2147483636, .int 33]) (rest := []) CF (k_L_offered l G a3 0 (rrStart 6 6 (rrStart 4 8 zRR)) 0 4 2 2 2147483636 33 (by decide +kernel) (by decide +kernel) (by decide +kernel) (by decide +kernel) (by decide +kernel) (by decide +kernel) hsA) (vx_cwSW 7 hts gL_law_L_offered rfl rfl rfl (by decide +kernel) ⟨Nat.le_of_ble_eq_true rfl, Nat.le_of_ble_eq_true rfl⟩) hP9 hD9 hS hA hY hZ (fst_RR _ _ _ _ _) rfl hl.1 rfl (lv_room (Nat.le_of_ble_eq_true rfl)) dL_law_335 ⟨Nat.le_of_ble_eq_true rfl, Nat.le_of_ble_eq_true rfl⟩ (fun H locs hP1 hD1 hS1 hg9 => ?_)
  refine W.widen (k := 261) (n := 6123) (Nat.le_of_ble_eq_true rfl) (Nat.le_of_ble_eq_true rfl) ?_
  have hg8 : s.heap.size + 254 ≤ H.size := Nat.le_trans (Nat.add_le_add_right hg 0) hg9
  clear hP hD hS hg9 hg hP9 hD9
  have hP : va_P G.1 vwCl ((wRR G a1 0 (rrSet (rrStart 6 6 (rrStart 4 8 zRR)) 0 (strTake (rrStr (rrStart 6 6 (rrStart 4 8 zRR)) 0) 4 2 2 2147483636 33))) ++ ((wRR G a2 0 (rrSet (rrMD (rrMD (rrMP (rrMP (rrStart 6 6 (rrStart 4 8 zRR)) 2) 0) 2) 1) 0 (strTake (rrStr (rrMD (rrMD (rrMP (rrMP (rrStart 6 6 (rrStart 4 8 zRR)) 2) 0) 2) 1) 0) 4 2 2 2147483636 33))) ++ (wRR G a3 0 (rrSet (rrStart 6 6 (rrStart 4 8 zRR)) 0 (strTake (rrStr (rrStart 6 6 (rrStart 4 8 zRR)) 0) 4 2 2 2147483636 33))))) H := by rw [List.append_nil, List.append_assoc] at hP1; exact hP1
  have hD : va_D (fun q : Nat => s.heap.size ≤ q) ((wRR G a1 0 (rrSet (rrStart 6 6 (rrStart 4 8 zRR)) 0 (strTake (rrStr (rrStart 6 6 (rrStart 4 8 zRR)) 0) 4 2 2 2147483636 33))) ++ ((wRR G a2 0 (rrSet (rrMD (rrMD (rrMP (rrMP (rrStart 6 6 (rrStart 4 8 zRR)) 2) 0) 2) 1) 0 (strTake (rrStr (rrMD (rrMD (rrMP (rrMP (rrStart 6 6 (rrStart 4 8 zRR)) 2) 0) 2) 1) 0) 4 2 2 2147483636 33))) ++ (wRR G a3 0 (rrSet (rrStart 6 6 (rrStart 4 8 zRR)) 0 (strTake (rrStr (rrStart 6 6 (rrStart 4 8 zRR)) 0) 4 2 2 2147483636 33))))) := by rw [List.append_nil, List.append_assoc] at hD1; exact hD1
  have hS : va_S (fun q : Nat => s.heap.size ≤ q) s.heap H locs := hS1
  have hg : s.heap.size + 254 ≤ H.size := hg8
  clear hP1 hD1 hS1 hg8
  rw [eTA]
  refine lv_aload_n hx hb dL_law_338 rfl (lv_at hl 15 rfl) ?_
  refine lv_iconst (v := 2) hx hb dL_law_339 (by decide) ?_
  refine ckS [] (wRR G a1 0 (rrSet (rrStart 6 6 (rrStart 4 8 zRR)) 0 (strTake (rrStr (rrStart 6 6 (rrStart 4 8 zRR)) 0) 4 2 2 2147483636 33))) ((wRR G a2 0 (rrSet (rrMD (rrMD (rrMP (rrMP (rrStart 6 6 (rrStart 4 8 zRR)) 2) 0) 2) 1) 0 (strTake (rrStr (rrMD (rrMD (rrMP (rrMP (rrStart 6 6 (rrStart 4 8 zRR)) 2) 0) 2) 1) 0) 4 2 2 2147483636 33))) ++ (wRR G a3 0 (rrSet (rrStart 6 6 (rrStart 4 8 zRR)) 0 (strTake (rrStr (rrStart 6 6 (rrStart 4 8 zRR)) 0) 4 2 2 2147483636 33)))) (wRR G a1 0 (rrSet (rrStart 6 6 (rrStart 4 8 zRR)) 0 (strTake (rrStr (rrStart 6 6 (rrStart 4 8 zRR)) 0) 4 2 2 2147483636 33))) (As := [.ref (a1 0), .int 2]) (rest := [.int 1]) CF (k_L_offers l G a1 0 (rrSet (rrStart 6 6 (rrStart 4 8 zRR)) 0 (strTake (rrStr (rrStart 6 6 (rrStart 4 8 zRR)) 0) 4 2 2 2147483636 33)) 2 (by decide +kernel)) (vx_cwSW 2 hts gL_law_L_offers rfl rfl rfl (by decide +kernel) ⟨Nat.le_of_ble_eq_true rfl, Nat.le_of_ble_eq_true rfl⟩) hP hD hS hA hY hZ (fst_RR _ _ _ _ _) rfl hl.1 rfl (lv_room (Nat.le_of_ble_eq_true rfl)) dL_law_340 ⟨Nat.le_of_ble_eq_true rfl, Nat.le_of_ble_eq_true rfl⟩ (fun H locs hP1 hD1 hS1 hg9 => ?_)
  refine W.widen (k := 262) (n := 6129) (Nat.le_of_ble_eq_true rfl) (Nat.le_of_ble_eq_true rfl) ?_
  have hg8 : s.heap.size + 254 ≤ H.size := Nat.le_trans (Nat.add_le_add_right hg 0) hg9
  clear hP hD hS hg9 hg
  have hP : va_P G.1 vwCl ((wRR G a1 0 (rrSet (rrStart 6 6 (rrStart 4 8 zRR)) 0 (strTake (rrStr (rrStart 6 6 (rrStart 4 8 zRR)) 0) 4 2 2 2147483636 33))) ++ ((wRR G a2 0 (rrSet (rrMD (rrMD (rrMP (rrMP (rrStart 6 6 (rrStart 4 8 zRR)) 2) 0) 2) 1) 0 (strTake (rrStr (rrMD (rrMD (rrMP (rrMP (rrStart 6 6 (rrStart 4 8 zRR)) 2) 0) 2) 1) 0) 4 2 2 2147483636 33))) ++ (wRR G a3 0 (rrSet (rrStart 6 6 (rrStart 4 8 zRR)) 0 (strTake (rrStr (rrStart 6 6 (rrStart 4 8 zRR)) 0) 4 2 2 2147483636 33))))) H := hP1
  have hD : va_D (fun q : Nat => s.heap.size ≤ q) ((wRR G a1 0 (rrSet (rrStart 6 6 (rrStart 4 8 zRR)) 0 (strTake (rrStr (rrStart 6 6 (rrStart 4 8 zRR)) 0) 4 2 2 2147483636 33))) ++ ((wRR G a2 0 (rrSet (rrMD (rrMD (rrMP (rrMP (rrStart 6 6 (rrStart 4 8 zRR)) 2) 0) 2) 1) 0 (strTake (rrStr (rrMD (rrMD (rrMP (rrMP (rrStart 6 6 (rrStart 4 8 zRR)) 2) 0) 2) 1) 0) 4 2 2 2147483636 33))) ++ (wRR G a3 0 (rrSet (rrStart 6 6 (rrStart 4 8 zRR)) 0 (strTake (rrStr (rrStart 6 6 (rrStart 4 8 zRR)) 0) 4 2 2 2147483636 33))))) := hD1
  have hS : va_S (fun q : Nat => s.heap.size ≤ q) s.heap H locs := hS1
  have hg : s.heap.size + 254 ≤ H.size := hg8
  clear hP1 hD1 hS1 hg8
  rw [eO]
  refine lv_icmp_ne (tgt := 430) hx hb dL_law_343 (by decide) (fun h => absurd h (by decide +kernel)) (fun _ => ?_)
  refine lv_aload_n hx hb dL_law_346 rfl (lv_at hl 14 rfl) ?_
  refine lv_iload hx hb dL_law_347 (lv_at hl 11 rfl) ?_
  refine lv_iload hx hb dL_law_349 (lv_at hl 4 rfl) ?_
  refine lv_sipush (v := 499) hx hb dL_law_351 (by decide) ?_
  refine lv_irem hx hb dL_law_354 (by decide) ?_
  rw [show (168 - 168 / 499 * 499 : Int32) = 168 from by decide +kernel]
  refine ckS0 (wRR G a1 0 (rrSet (rrStart 6 6 (rrStart 4 8 zRR)) 0 (strTake (rrStr (rrStart 6 6 (rrStart 4 8 zRR)) 0) 4 2 2 2147483636 33))) (wRR G a2 0 (rrSet (rrMD (rrMD (rrMP (rrMP (rrStart 6 6 (rrStart 4 8 zRR)) 2) 0) 2) 1) 0 (strTake (rrStr (rrMD (rrMD (rrMP (rrMP (rrStart 6 6 (rrStart 4 8 zRR)) 2) 0) 2) 1) 0) 4 2 2 2147483636 33))) (wRR G a3 0 (rrSet (rrStart 6 6 (rrStart 4 8 zRR)) 0 (strTake (rrStr (rrStart 6 6 (rrStart 4 8 zRR)) 0) 4 2 2 2147483636 33))) (wRR G a2 0 (rrMD (rrMD (rrMP (rrMP (rrSet (rrMD (rrMD (rrMP (rrMP (rrStart 6 6 (rrStart 4 8 zRR)) 2) 0) 2) 1) 0 (strTake (rrStr (rrMD (rrMD (rrMP (rrMP (rrStart 6 6 (rrStart 4 8 zRR)) 2) 0) 2) 1) 0) 4 2 2 2147483636 33)) 2) 0) 2) 1)) (As := [.ref (a2 0), .int 6, .int 168]) (rest := []) CF (k_L_refuses l hl0 G a2 0 (rrSet (rrMD (rrMD (rrMP (rrMP (rrStart 6 6 (rrStart 4 8 zRR)) 2) 0) 2) 1) 0 (strTake (rrStr (rrMD (rrMD (rrMP (rrMP (rrStart 6 6 (rrStart 4 8 zRR)) 2) 0) 2) 1) 0) 4 2 2 2147483636 33)) 6 168 (-49) (-49) (Or.inl ⟨by decide +kernel, by decide +kernel, by decide +kernel⟩) (by decide +kernel) (by decide +kernel) (by decide +kernel) (by decide +kernel) (by decide +kernel) (by decide +kernel) (fun h => h.1 (by decide)) (fun h => h.1 (by decide)) (fun h => h.1 (by decide)) (fun h => h.1 (by decide)) (fun h => h.1 (by decide)) (fun h => h.1 (by decide)) (fun h => h.1 (by decide))) (va_cwS 3 hts gL_law_L_refuses rfl rfl rfl (by decide +kernel) ⟨Nat.le_of_ble_eq_true rfl, Nat.le_of_ble_eq_true rfl⟩) hP hD hS hA hY hZ (fst_RR _ _ _ _ _) rfl hl.1 rfl (lv_room (Nat.le_of_ble_eq_true rfl)) dL_law_355 ⟨Nat.le_of_ble_eq_true rfl, Nat.le_of_ble_eq_true rfl⟩ (fun H locs hP1 hD1 hS1 hg9 => ?_)
  refine W.widen (k := 303) (n := 6375) (Nat.le_of_ble_eq_true rfl) (Nat.le_of_ble_eq_true rfl) ?_
  have hg8 : s.heap.size + 295 ≤ H.size := Nat.le_trans (Nat.add_le_add_right hg 41) hg9
  clear hP hD hS hg9 hg
  have hP : va_P G.1 vwCl ((wRR G a1 0 (rrSet (rrStart 6 6 (rrStart 4 8 zRR)) 0 (strTake (rrStr (rrStart 6 6 (rrStart 4 8 zRR)) 0) 4 2 2 2147483636 33))) ++ ((wRR G a2 0 (rrMD (rrMD (rrMP (rrMP (rrSet (rrMD (rrMD (rrMP (rrMP (rrStart 6 6 (rrStart 4 8 zRR)) 2) 0) 2) 1) 0 (strTake (rrStr (rrMD (rrMD (rrMP (rrMP (rrStart 6 6 (rrStart 4 8 zRR)) 2) 0) 2) 1) 0) 4 2 2 2147483636 33)) 2) 0) 2) 1)) ++ (wRR G a3 0 (rrSet (rrStart 6 6 (rrStart 4 8 zRR)) 0 (strTake (rrStr (rrStart 6 6 (rrStart 4 8 zRR)) 0) 4 2 2 2147483636 33))))) H := hP1
  have hD : va_D (fun q : Nat => s.heap.size ≤ q) ((wRR G a1 0 (rrSet (rrStart 6 6 (rrStart 4 8 zRR)) 0 (strTake (rrStr (rrStart 6 6 (rrStart 4 8 zRR)) 0) 4 2 2 2147483636 33))) ++ ((wRR G a2 0 (rrMD (rrMD (rrMP (rrMP (rrSet (rrMD (rrMD (rrMP (rrMP (rrStart 6 6 (rrStart 4 8 zRR)) 2) 0) 2) 1) 0 (strTake (rrStr (rrMD (rrMD (rrMP (rrMP (rrStart 6 6 (rrStart 4 8 zRR)) 2) 0) 2) 1) 0) 4 2 2 2147483636 33)) 2) 0) 2) 1)) ++ (wRR G a3 0 (rrSet (rrStart 6 6 (rrStart 4 8 zRR)) 0 (strTake (rrStr (rrStart 6 6 (rrStart 4 8 zRR)) 0) 4 2 2 2147483636 33))))) := hD1
  have hS : va_S (fun q : Nat => s.heap.size ≤ q) s.heap H locs := hS1
  have hg : s.heap.size + 295 ≤ H.size := hg8
  clear hP1 hD1 hS1 hg8
  intro T hT X
  exact ⟨_, Steps.refl _, by show s.heap.size + 291 ≤ T.heap.size; rw [hT]; omega, X.here.within _⟩
