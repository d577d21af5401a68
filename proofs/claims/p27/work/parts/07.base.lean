/-! what every contract carries, and call rows of our own: readers (heap kept), writers (world for world), throwers -/
abbrev GT : Type := va_G × ClassId × ClassId × ClassId
def gTys (G : GT) : List (ClassId × FieldType) := [(G.2.1, .int)]
def isNw : Cond → Bool
  | .fieldLinkNest .. => true
  | .methodLinkNest .. => true
  | .castable .. => true
  | _ => false
def nwL : List Cond := [.fieldLinkNest RX6 106 RX3 "items" "[I" RX6,
  .fieldLinkNest RX6 126 RX1 "held" "I" RX6,
  .fieldLinkNest RX6 129 RX1 "items" "[I" RX6,
  .fieldLinkNest RX6 130 RX1 "times" "[I" RX6,
  .fieldLinkNest RX6 136 RX5 "chain" "LReservoirReed$Chain;" RX6,
  .fieldLinkNest RX6 140 RX0 "items" "[I" RX6,
  .fieldLinkNest RX6 143 RX0 "start" "I" RX6,
  .fieldLinkNest RX6 146 RX0 "positions" "[I" RX6,
  .fieldLinkNest RX6 150 RX0 "awaited" "I" RX6,
  .fieldLinkNest RX6 157 RX5 "priorities" "LReservoirReed$Priorities;" RX6,
  .fieldLinkNest RX6 167 RX5 "distinct" "LReservoirReed$Distinct;" RX6,
  .fieldLinkNest RX6 47 RX5 "taken" "I" RX6,
  .fieldLinkNest RX6 66 RX2 "weight" "I" RX6,
  .fieldLinkNest RX6 71 RX5 "reservoir" "LReservoirReed$Reservoir;" RX6,
  .fieldLinkNest RX6 84 RX4 "items" "[I" RX6,
  .fieldLinkNest RX6 92 RX4 "positions" "[I" RX6,
  .fieldLinkNest RX6 95 RX2 "reservoir" "LReservoirReed$Reservoir;" RX6,
  .fieldLinkNest RX6 96 RX4 "given" "I" RX6,
  .methodLinkNest RX6 21 yX3_init RX6,
  .methodLinkNest RX6 28 yX1_init RX6,
  .methodLinkNest RX6 9 yX5_init RX6,
  .methodLinkNest RX0 37 yX6_remainder RX6,
  .methodLinkNest RX0 44 yX6_at RX6,
  .methodLinkNest RX0 48 yX6_put RX6,
  .methodLinkNest RX1 25 yX6_at RX6,
  .methodLinkNest RX1 37 yX6_put RX6,
  .methodLinkNest RX1 47 yX6_insert RX6,
  .methodLinkNest RX1 59 yX6_quotient RX6,
  .methodLinkNest RX2 9 yX4_init RX6,
  .methodLinkNest RX3 31 yX6_at RX6,
  .methodLinkNest RX3 48 yX6_insert RX6,
  .methodLinkNest RX3 56 yX6_quotient RX6,
  .methodLinkNest RX4 25 yX6_remainder RX6,
  .methodLinkNest RX4 29 yX6_put RX6,
  .methodLinkNest RX5 18 yX2_init RX6,
  .methodLinkNest RX5 34 yX3_init RX6,
  .methodLinkNest RX5 41 yX1_init RX6,
  .methodLinkNest RX5 48 yX0_init RX6,
  .methodLinkNest RX5 9 yX4_init RX6,
  .castable "java/lang/IllegalArgumentException" "java/lang/IllegalArgumentException",
  .castable "java/lang/IllegalStateException" "java/lang/IllegalStateException",
  .castable "java/lang/IndexOutOfBoundsException" "java/lang/IndexOutOfBoundsException"]
theorem nwL_ok : ∀ w ∈ nwL, isNw w = true := by decide +kernel
theorem nw_warm {w : Cond} (h : isNw w = true) {s U : State} (hW : s.WarmedH U.vm) (hZ : va_Nw w s) : va_Nw w U := by
  cases w <;> first | exact va_Nw.warmF hW hZ | exact va_Nw.warmM hW hZ | exact va_Nw.warmC hW hZ | exact absurd h Bool.false_ne_true
theorem nw_same {w : Cond} (h : isNw w = true) {u U : State} (hv : u.vm = U.vm) (hZ : va_Nw w u) : va_Nw w U := by
  cases w <;> first | exact va_Nw.same rfl hv hZ | exact absurd h Bool.false_ne_true
def ncL : List (String × String) := [("java/lang/IllegalStateException", "java/lang/IllegalArgumentException"), ("java/lang/IndexOutOfBoundsException", "java/lang/IllegalArgumentException")]
def stL : List (Nat × String) := [(176, "an argument is out of range"), (183, "the call is not possible now"), (188, "there is no such place or slot")]
/-- the tables' words that aren't good ones, the classes, the array classes, the texts -/
def Sy (G : GT) (U : State) : Prop := va_K G.1 vwCl (gTys G) U ∧ (∀ w ∈ nwL, va_Nw w U) ∧ (∀ q ∈ ncL, va_Nc q.1 q.2 U) ∧ (∀ q ∈ stL, ∃ a, vk_R RX6 q.1 q.2 a U)
theorem Sy.warm {G : GT} {s U : State} (hW : s.WarmedH U.vm) (h : Sy G s) : Sy G U :=
  ⟨va_K.moved hW.alike h.1, fun w hw => nw_warm (nwL_ok w hw) hW (h.2.1 w hw), fun q hq => va_Nc.moved hW.alike (h.2.2.1 q hq), fun q hq => by
    obtain ⟨a, ha⟩ := h.2.2.2 q hq
    exact ⟨a, vk_R.warm hW ha⟩⟩
theorem Sy.same {G : GT} {s U : State} (hv : s.vm = U.vm) (h : Sy G s) : Sy G U := Sy.warm (by rw [← hv]; exact State.WarmedH.refl s) h
/-- an array class is the one of its name -/
theorem Sy.cls {G : GT} {s : State} {cA cB : ClassId} {ty : FieldType} {t1 t2 : List (ClassId × FieldType)} (h1 : va_K G.1 vwCl t1 s) (h2 : va_K G.1 vwCl t2 s) {i j : Nat} (hi : t1[i]? = some (cA, ty)) (hj : t2[j]? = some (cB, ty)) (hty : ty = .int ∨ ty = .boolean ∨ ty = .long) : cA = cB := by
  have a := (h1.2 i _ hi).2
  have b := (h2.2 j _ hj).2
  rcases hty with rfl | rfl | rfl <;> exact Option.some.inj ((show s.vm.findClass _ = some cA from a).symm.trans b)
section BASE
variable {p : Program} {l : Launch} {e : Env} {R : Room} {s : State} {m : MethodId} {args : Array Value} {below : List Frame} {meth : Method} {c : Code} {H : Heap} {locs : List Loc} {cells slots : Nat} {Q : State → Prop}
variable {y : MethodName} {bytes cc : ByteArray} {maxL nL n index pc ci N : Nat} {ret : Option FieldType} {wy : List Cond} {rm : Room} {Ts : List Cond} {own C host : String} {b : Addr} {As rest st0 av : List Value} {ls : Array Slot} {G : GT} {w0 w1 wa wc wb : va_W} {fs : List Value} {T : u_T} {v : Value} {ov : Option Value} {A : Nat → Prop} {H0 : Heap}
/-! ### readers: the heap stays, the answer is told -/
def RQ (v : Value) : Array Value → State → Outcome → State → Prop := fun _ st o t => o = .returned (some v) ∧ t.heap = st.heap
abbrev RPc (G : GT) (w0 : va_W) (av : List Value) : Array Value → State → Prop := va_Pc av (fun U => va_P G.1 vwCl w0 U.heap ∧ Sy G U)
abbrev Rd (l : Launch) (y : MethodName) (wy : List Cond) (rm : Room) (G : GT) (w0 : va_W) (av : List Value) (v : Value) : Prop := Met l y wy rm (RPc G w0 av) (RQ v) 0 0 (fun _ => False)
theorem RPc.blind : FrameBlind (RPc G w0 av) := fun a U g mk q => ⟨q.1, q.2.1, Sy.same (s := U) rfl q.2.2⟩
theorem RPc.at (hP : va_P G.1 vwCl w0 H) (hY : Sy G s) : ∀ U : State, U.heap = H → s.WarmedH U.vm → RPc G w0 av av.toArray U := fun U hU hW => ⟨rfl, by rw [hU]; exact hP, Sy.warm hW hY⟩
theorem rd_go {a : Array Value} (hr : va_Run p l e R s m args below meth c H locs cells slots 0 0 (F0 m pc ls st0) rest (RQ v a) (fun _ => False))
    (kk : W p l e R s m args below meth c H locs cells slots Q (F0 m (pc + 3) ls (v :: rest))) : W p l e R s m args below meth c H locs cells slots Q (F0 m pc ls st0) := by
  intro T hT X
  obtain ⟨v', st₀, t, T', L, h0, X', hL, e1, e2, ⟨hv, hh⟩, st⟩ := hr T hT X
  cases hv
  obtain ⟨t2, a1, b1⟩ := kk T' (by rw [e1, hh, h0]) (Stand.forget X' (fun q h => (hL q h).elim))
  exact ⟨t2, st t2 a1, b1⟩
theorem rv_of (hY : Sy G s) (hP : va_P G.1 vwCl w0 H) (hw0 : w0[0]? = some (b, .inr (ci, fs))) (hc : vwCl[ci]? = some (C, T, N)) : ∃ cell : Cell, H[b]? = some cell ∧ cell.vm.isStatics = false ∧ s.vm.findClass C = some cell.cls := va_recv (q := (C, T, N)) hY.1 hP hc hw0
theorem rdV (CF : CallFix p m c cc nL s args Ts own) (hM : Rd l y wy rm G w0 (.ref b :: As) v) (cw : CallW R s args own C index y bytes maxL ret wy rm 0 0 n) (hP : va_P G.1 vwCl w0 H) (hY : Sy G s) (hw0 : w0[0]? = some (b, .inr (ci, fs))) (hc : vwCl[ci]? = some (C, T, N))
    (hn : As.length = n) (hsz : ls.size = nL) (hst : st0 = As.reverse ++ .ref b :: rest) (hW : 2 * (F0 m pc ls st0).monitorRoom + (rest.map fun v => v.category).sum ≤ 8) (hdg : decode cc pc = .ok (.invokevirtual index, 3)) (hf : cells ≤ R.cells ∧ slots ≤ R.slots)
    (kk : W p l e R s m args below meth c H locs cells slots Q (F0 m (pc + 3) ls (v :: rest))) : W p l e R s m args below meth c H locs cells slots Q (F0 m pc ls st0) :=
  rd_go (va_runV CF hM cw ⟨RPc.blind, rv_of hY hP hw0 hc, RPc.at hP hY⟩ rfl hn hsz hst hW hdg hf) kk
theorem rdVN (CF : CallFix p m c cc nL s args Ts own) (hM : Rd l y wy rm G w0 (.ref b :: As) v) (cw : va_CN R s args own index y host bytes maxL ret wy rm 0 0 n ∧ (Cond.instanceMethod y).before args s = true ∧ (Cond.selects C y y).before args s = true) (hP : va_P G.1 vwCl w0 H) (hY : Sy G s) (hw0 : w0[0]? = some (b, .inr (ci, fs))) (hc : vwCl[ci]? = some (C, T, N))
    (hn : As.length = n) (hsz : ls.size = nL) (hst : st0 = As.reverse ++ .ref b :: rest) (hW : 2 * (F0 m pc ls st0).monitorRoom + (rest.map fun v => v.category).sum ≤ 8) (hdg : decode cc pc = .ok (.invokevirtual index, 3)) (hf : cells ≤ R.cells ∧ slots ≤ R.slots)
    (kk : W p l e R s m args below meth c H locs cells slots Q (F0 m (pc + 3) ls (v :: rest))) : W p l e R s m args below meth c H locs cells slots Q (F0 m pc ls st0) :=
  rd_go (va_runVN CF hM cw ⟨RPc.blind, rv_of hY hP hw0 hc, RPc.at hP hY⟩ rfl hn hsz hst hW hdg hf) kk
theorem rdS (CF : CallFix p m c cc nL s args Ts own) (hM : Rd l y wy rm G w0 As v) (cw : CallB R s args own index y bytes maxL ret wy rm 0 0 n ∧ (Cond.static y).before args s = true) (hP : va_P G.1 vwCl w0 H) (hY : Sy G s)
    (hn : As.length = n) (hsz : ls.size = nL) (hst : st0 = As.reverse ++ rest) (hW : 2 * (F0 m pc ls st0).monitorRoom + (rest.map fun v => v.category).sum ≤ 8) (hdg : decode cc pc = .ok (.invokestatic index, 3)) (hf : cells ≤ R.cells ∧ slots ≤ R.slots)
    (kk : W p l e R s m args below meth c H locs cells slots Q (F0 m (pc + 3) ls (v :: rest))) : W p l e R s m args below meth c H locs cells slots Q (F0 m pc ls st0) :=
  rd_go (va_runS CF hM cw ⟨RPc.blind, RPc.at hP hY⟩ rfl hn hsz hst hW hdg hf) kk
theorem rdSN (CF : CallFix p m c cc nL s args Ts own) (hM : Rd l y wy rm G w0 As v) (cw : va_CN R s args own index y host bytes maxL ret wy rm 0 0 n ∧ (Cond.static y).before args s = true ∧ True) (hP : va_P G.1 vwCl w0 H) (hY : Sy G s)
    (hn : As.length = n) (hsz : ls.size = nL) (hst : st0 = As.reverse ++ rest) (hW : 2 * (F0 m pc ls st0).monitorRoom + (rest.map fun v => v.category).sum ≤ 8) (hdg : decode cc pc = .ok (.invokestatic index, 3)) (hf : cells ≤ R.cells ∧ slots ≤ R.slots)
    (kk : W p l e R s m args below meth c H locs cells slots Q (F0 m (pc + 3) ls (v :: rest))) : W p l e R s m args below meth c H locs cells slots Q (F0 m pc ls st0) :=
  rd_go (va_runSN CF hM cw ⟨RPc.blind, RPc.at hP hY⟩ rfl hn hsz hst hW hdg hf) kk
/-! a reader's own end -/
theorem rd_iret {x y' : Int32} (hexec : p.tables.exec = Jvm.exec) (hb : c.code = cc) (hr : meth.sig.returnType = some .int) (hlk : meth.locks = false) (hv : x = y') (hdg : decode cc pc = .ok (.ireturn, 1)) :
    W p l e R s m args below meth c s.heap [] 0 0 (MQ below (RQ (.int y')) args s 0 0 (fun _ => False)) (F0 m pc ls [.int x]) := by
  subst hv
  exact W.iret hexec hb hr (fun t ht _ => ⟨rfl, ht⟩) (fun q h => nomatch h) hdg hlk
theorem rd_zret {x y' : Int32} (hexec : p.tables.exec = Jvm.exec) (hb : c.code = cc) (hr : meth.sig.returnType = some .boolean) (hlk : meth.locks = false) (hv : x = y') (hn : narrow .boolean (.int x) = .int x) (hdg : decode cc pc = .ok (.ireturn, 1)) :
    W p l e R s m args below meth c s.heap [] 0 0 (MQ below (RQ (.int y')) args s 0 0 (fun _ => False)) (F0 m pc ls [.int x]) := by
  subst hv
  exact W.zret hexec hb hr hn (fun t ht _ => ⟨rfl, ht⟩) (fun q h => nomatch h) hdg hlk
theorem rd_lret {x y' : Int64} (hexec : p.tables.exec = Jvm.exec) (hb : c.code = cc) (hr : meth.sig.returnType = some .long) (hlk : meth.locks = false) (hv : x = y') (hdg : decode cc pc = .ok (.lreturn, 1)) :
    W p l e R s m args below meth c s.heap [] 0 0 (MQ below (RQ (.long y')) args s 0 0 (fun _ => False)) (F0 m pc ls [.long x]) := by
  subst hv
  exact W.lret hexec hb hr (fun t ht _ => ⟨rfl, ht⟩) (fun q h => nomatch h) hdg hlk
theorem rd_aret {a y' : Nat} {rt : FieldType} (hexec : p.tables.exec = Jvm.exec) (hb : c.code = cc) (hr : meth.sig.returnType = some rt) (hlk : meth.locks = false) (hrt : (∃ n, rt = .object n) ∨ ∃ t, rt = .array t) (hv : a = y') (hdg : decode cc pc = .ok (.areturn, 1)) :
    W p l e R s m args below meth c s.heap [] 0 0 (MQ below (RQ (.ref y')) args s 0 0 (fun _ => False)) (F0 m pc ls [.ref a]) := by
  subst hv
  exact W.aret hexec hb hr hrt (Or.inr ⟨_, rfl⟩) (fun t ht _ => ⟨rfl, ht⟩) (fun q h => nomatch h) hdg hlk
theorem va_P_nil : va_P G.1 vwCl [] H := fun k q h => by simp at h
/-! ### writers: world for world -/
def WQ (ov : Option Value) (G : GT) (w1 : va_W) (A : Nat → Prop) : Array Value → State → Outcome → State → Prop := fun _ st o t => (o = .returned ov ∧ va_P G.1 vwCl w1 t.heap) ∧ va_F A st t
abbrev WPc (G : GT) (w0 : va_W) (sz : Nat) (av : List Value) : Array Value → State → Prop := va_Pc av (fun U => U.heap.size = sz ∧ va_P G.1 vwCl w0 U.heap ∧ Sy G U ∧ va_D (fun _ => True) w0)
abbrev Wr (l : Launch) (y : MethodName) (wy : List Cond) (rm : Room) (G : GT) (w0 w1 : va_W) (av : List Value) (ov : Option Value) : Prop := ∀ sz : Nat, Met l y wy rm (WPc G w0 sz av) (WQ ov G w1 (va_A w0 sz)) 0 0 (va_A w0 sz)
theorem WPc.blind {sz : Nat} : FrameBlind (WPc G w0 sz av) := fun a U g mk q => ⟨q.1, q.2.1, q.2.2.1, Sy.same (s := U) rfl q.2.2.2.1, q.2.2.2.2⟩
theorem WPc.at (hP : va_P G.1 vwCl w0 H) (hY : Sy G s) (hD : va_D A w0) : ∀ U : State, U.heap = H → s.WarmedH U.vm → WPc G w0 H.size av av.toArray U := fun U hU hW => ⟨rfl, by rw [hU], by rw [hU]; exact hP, Sy.warm hW hY, hD.weaken (fun _ _ _ _ => trivial)⟩
/-- a world's parts -/
theorem va_P.cut (h : va_P G.1 vwCl (wa ++ (wc ++ wb)) H) : va_P G.1 vwCl wa H ∧ va_P G.1 vwCl wc H ∧ va_P G.1 vwCl wb H :=
  have a : ∀ {u : va_W}, (∀ q, q ∈ u → q ∈ wa ++ (wc ++ wb)) → va_P G.1 vwCl u H := fun hu k q hk => by
    obtain ⟨i, hi⟩ := List.getElem?_of_mem (hu q (List.mem_of_getElem? hk))
    exact h i q hi
  ⟨a fun q h => List.mem_append_left _ h, a fun q h => List.mem_append_right _ (List.mem_append_left _ h), a fun q h => List.mem_append_right _ (List.mem_append_right _ h)⟩
/-- apart, by the addresses -/
theorem va_D.nodup {A : Nat → Prop} {ws : va_W} : va_D A ws ↔ (ws.map Prod.fst).Nodup ∧ ∀ a ∈ ws.map Prod.fst, A a := by
  constructor
  · rintro ⟨h1, h2⟩
    refine ⟨?_, ?_⟩
    · rw [List.nodup_iff_pairwise_ne, List.pairwise_iff_getElem]
      intro i j hi hj hij he
      rw [List.getElem_map, List.getElem_map] at he
      have := h1 i j _ _ (List.getElem?_eq_getElem (by simpa using hi)) (List.getElem?_eq_getElem (by simpa using hj)) he
      omega
    · intro a ha
      obtain ⟨q, hq, rfl⟩ := List.mem_map.mp ha
      obtain ⟨i, hi⟩ := List.getElem?_of_mem hq
      exact h2 i q hi
  · rintro ⟨h1, h2⟩
    refine ⟨?_, ?_⟩
    · intro i j p q hp hq he
      obtain ⟨hi, hpi⟩ := List.getElem?_eq_some_iff.mp hp
      obtain ⟨hj, hqj⟩ := List.getElem?_eq_some_iff.mp hq
      rw [List.nodup_iff_pairwise_ne, List.pairwise_iff_getElem] at h1
      rcases Nat.lt_trichotomy i j with hlt | rfl | hlt
      · exact absurd (by rw [List.getElem_map, List.getElem_map, hpi, hqj]; exact he) (h1 i j (by simpa using hi) (by simpa using hj) hlt)
      · rfl
      · exact absurd (by rw [List.getElem_map, List.getElem_map, hpi, hqj]; exact he.symm) (h1 j i (by simpa using hj) (by simpa using hi) hlt)
    · intro k q hk
      exact h2 q.1 (List.mem_map.mpr ⟨q, List.mem_of_getElem? hk, rfl⟩)
theorem va_D.re {A : Nat → Prop} {ws ws' : va_W} (h : va_D A ws) (he : ws'.map Prod.fst = ws.map Prod.fst) : va_D A ws' := by
  rw [va_D.nodup] at h ⊢
  rw [he]
  exact h
theorem va_D.mid {A : Nat → Prop} (h : va_D A (wa ++ (wc ++ wb))) : va_D A wc := by
  rw [va_D.nodup] at h ⊢
  obtain ⟨h1, h2⟩ := h
  simp only [List.map_append] at h1 h2
  exact ⟨(List.nodup_append.mp (List.nodup_append.mp h1).2.1).1, fun a ha => h2 a (List.mem_append_right _ (List.mem_append_left _ ha))⟩
theorem va_A.free {A : Nat → Prop} (hD : va_D A wc) (hS : va_S A H0 H locs) (hA : ∀ q, H0.size ≤ q → A q) : ∀ q, va_A wc H.size q → A q := fun q h => by
  rcases h with ⟨k, e9, h⟩ | h
  · exact hD.2 k (q, e9) h
  · exact hA q (Nat.le_trans hS.1 h)
theorem wr_join {A : Nat → Prop} {H1 : Heap} (hP : va_P G.1 vwCl (wa ++ (wc ++ wb)) H) (hD : va_D A (wa ++ (wc ++ wb))) (hk : ∀ q : Nat, q < H.size → ¬ va_A wc H.size q → H1[q]? = H[q]?) (hP1 : va_P G.1 vwCl w1 H1) : va_P G.1 vwCl (wa ++ (w1 ++ wb)) H1 := by
  obtain ⟨pa, pc, pb⟩ := hP.cut
  have hnd := (va_D.nodup.mp hD).1
  simp only [List.map_append] at hnd
  obtain ⟨-, hn2, hn3⟩ := List.nodup_append.mp hnd
  obtain ⟨-, -, hn4⟩ := List.nodup_append.mp hn2
  have keep : ∀ {u : va_W}, va_P G.1 vwCl u H → (∀ q ∈ u, ∀ r ∈ wc, q.1 ≠ r.1) → va_P G.1 vwCl u H1 := fun {u} hu hx => hu.kept fun k q hq => hk q.1 (hu k q hq).lt fun h => by
    rcases h with ⟨k2, e9, h⟩ | h
    · exact hx q (List.mem_of_getElem? hq) _ (List.mem_of_getElem? h) rfl
    · exact absurd (hu k q hq).lt (Nat.not_lt.mpr h)
  refine va_P.app (keep pa fun q hq r hr => ?_) (va_P.app hP1 (keep pb fun q hq r hr => ?_))
  · exact hn3 q.1 (List.mem_map.mpr ⟨q, hq, rfl⟩) r.1 (List.mem_append_left _ (List.mem_map.mpr ⟨r, hr, rfl⟩))
  · exact fun h => hn4 r.1 (List.mem_map.mpr ⟨r, hr, rfl⟩) q.1 (List.mem_map.mpr ⟨q, hq, rfl⟩) h.symm
theorem wr_go {a : Array Value} (hr : va_Run p l e R s m args below meth c H locs cells slots 0 0 (F0 m pc ls st0) rest (WQ ov G w1 (va_A wc H.size) a) (va_A wc H.size))
    (hP : va_P G.1 vwCl (wa ++ (wc ++ wb)) H) (hD : va_D A (wa ++ (wc ++ wb))) (hS : va_S A H0 H locs) (hA : ∀ q, H0.size ≤ q → A q) (he : w1.map Prod.fst = wc.map Prod.fst)
    (kk : ∀ (H1 : Heap) (locs1 : List Loc), va_P G.1 vwCl (wa ++ (w1 ++ wb)) H1 → va_D A (wa ++ (w1 ++ wb)) → va_S A H0 H1 locs1 → W p l e R s m args below meth c H1 locs1 cells slots Q (F0 m (pc + 3) ls (ov.toList ++ rest))) : W p l e R s m args below meth c H locs cells slots Q (F0 m pc ls st0) := by
  intro T hT X
  have hf := va_A.free hD.mid hS hA
  obtain ⟨v', st₀, t, T', L, h0, X', hL, e1, e2, ⟨⟨hv, hp⟩, hz, hk⟩, st⟩ := hr T hT X
  cases hv
  rw [h0] at hz hk
  rw [← e1] at hz hk hp
  obtain ⟨t2, a1, b1⟩ := kk T'.heap (locs ++ L) (wr_join hP hD hk hp) (hD.re (by simp [he])) ⟨Nat.le_trans hS.1 hz, fun q h1 h2 => by rw [hk q (Nat.lt_of_lt_of_le h1 hS.1) (fun z => h2 (hf q z))]; exact hS.2.1 q h1 h2, fun q hq => by
      rcases List.mem_append.mp hq with h | h
      · exact hS.2.2 q h
      · exact hf _ (hL q h)⟩ T' rfl X'
  exact ⟨t2, st t2 a1, b1⟩
theorem wrV (wa wc wb w1 : va_W) (CF : CallFix p m c cc nL s args Ts own) (hM : Wr l y wy rm G wc w1 (.ref b :: As) ov) (cw : CallW R s args own C index y bytes maxL ret wy rm 0 0 n) (hP : va_P G.1 vwCl (wa ++ (wc ++ wb)) H) (hD : va_D A (wa ++ (wc ++ wb))) (hS : va_S A H0 H locs) (hA : ∀ q, H0.size ≤ q → A q) (hY : Sy G s) (hw0 : wc[0]? = some (b, .inr (ci, fs))) (hc : vwCl[ci]? = some (C, T, N)) (he : w1.map Prod.fst = wc.map Prod.fst)
    (hn : As.length = n) (hsz : ls.size = nL) (hst : st0 = As.reverse ++ .ref b :: rest) (hW : 2 * (F0 m pc ls st0).monitorRoom + (rest.map fun v => v.category).sum ≤ 8) (hdg : decode cc pc = .ok (.invokevirtual index, 3)) (hf : cells ≤ R.cells ∧ slots ≤ R.slots)
    (kk : ∀ (H1 : Heap) (locs1 : List Loc), va_P G.1 vwCl (wa ++ (w1 ++ wb)) H1 → va_D A (wa ++ (w1 ++ wb)) → va_S A H0 H1 locs1 → W p l e R s m args below meth c H1 locs1 cells slots Q (F0 m (pc + 3) ls (ov.toList ++ rest))) : W p l e R s m args below meth c H locs cells slots Q (F0 m pc ls st0) :=
  wr_go (va_runV CF (hM H.size) cw ⟨WPc.blind, rv_of hY hP.cut.2.1 hw0 hc, WPc.at hP.cut.2.1 hY hD.mid⟩ rfl hn hsz hst hW hdg hf) hP hD hS hA he kk
theorem wrVN (wa wc wb w1 : va_W) (CF : CallFix p m c cc nL s args Ts own) (hM : Wr l y wy rm G wc w1 (.ref b :: As) ov) (cw : va_CN R s args own index y host bytes maxL ret wy rm 0 0 n ∧ (Cond.instanceMethod y).before args s = true ∧ (Cond.selects C y y).before args s = true) (hP : va_P G.1 vwCl (wa ++ (wc ++ wb)) H) (hD : va_D A (wa ++ (wc ++ wb))) (hS : va_S A H0 H locs) (hA : ∀ q, H0.size ≤ q → A q) (hY : Sy G s) (hw0 : wc[0]? = some (b, .inr (ci, fs))) (hc : vwCl[ci]? = some (C, T, N)) (he : w1.map Prod.fst = wc.map Prod.fst)
    (hn : As.length = n) (hsz : ls.size = nL) (hst : st0 = As.reverse ++ .ref b :: rest) (hW : 2 * (F0 m pc ls st0).monitorRoom + (rest.map fun v => v.category).sum ≤ 8) (hdg : decode cc pc = .ok (.invokevirtual index, 3)) (hf : cells ≤ R.cells ∧ slots ≤ R.slots)
    (kk : ∀ (H1 : Heap) (locs1 : List Loc), va_P G.1 vwCl (wa ++ (w1 ++ wb)) H1 → va_D A (wa ++ (w1 ++ wb)) → va_S A H0 H1 locs1 → W p l e R s m args below meth c H1 locs1 cells slots Q (F0 m (pc + 3) ls (ov.toList ++ rest))) : W p l e R s m args below meth c H locs cells slots Q (F0 m pc ls st0) :=
  wr_go (va_runVN CF (hM H.size) cw ⟨WPc.blind, rv_of hY hP.cut.2.1 hw0 hc, WPc.at hP.cut.2.1 hY hD.mid⟩ rfl hn hsz hst hW hdg hf) hP hD hS hA he kk
theorem wrS (wa wc wb w1 : va_W) (CF : CallFix p m c cc nL s args Ts own) (hM : Wr l y wy rm G wc w1 As ov) (cw : CallB R s args own index y bytes maxL ret wy rm 0 0 n ∧ (Cond.static y).before args s = true) (hP : va_P G.1 vwCl (wa ++ (wc ++ wb)) H) (hD : va_D A (wa ++ (wc ++ wb))) (hS : va_S A H0 H locs) (hA : ∀ q, H0.size ≤ q → A q) (hY : Sy G s) (he : w1.map Prod.fst = wc.map Prod.fst)
    (hn : As.length = n) (hsz : ls.size = nL) (hst : st0 = As.reverse ++ rest) (hW : 2 * (F0 m pc ls st0).monitorRoom + (rest.map fun v => v.category).sum ≤ 8) (hdg : decode cc pc = .ok (.invokestatic index, 3)) (hf : cells ≤ R.cells ∧ slots ≤ R.slots)
    (kk : ∀ (H1 : Heap) (locs1 : List Loc), va_P G.1 vwCl (wa ++ (w1 ++ wb)) H1 → va_D A (wa ++ (w1 ++ wb)) → va_S A H0 H1 locs1 → W p l e R s m args below meth c H1 locs1 cells slots Q (F0 m (pc + 3) ls (ov.toList ++ rest))) : W p l e R s m args below meth c H locs cells slots Q (F0 m pc ls st0) :=
  wr_go (va_runS CF (hM H.size) cw ⟨WPc.blind, WPc.at hP.cut.2.1 hY hD.mid⟩ rfl hn hsz hst hW hdg hf) hP hD hS hA he kk
theorem wrSN (wa wc wb w1 : va_W) (CF : CallFix p m c cc nL s args Ts own) (hM : Wr l y wy rm G wc w1 As ov) (cw : va_CN R s args own index y host bytes maxL ret wy rm 0 0 n ∧ (Cond.static y).before args s = true ∧ True) (hP : va_P G.1 vwCl (wa ++ (wc ++ wb)) H) (hD : va_D A (wa ++ (wc ++ wb))) (hS : va_S A H0 H locs) (hA : ∀ q, H0.size ≤ q → A q) (hY : Sy G s) (he : w1.map Prod.fst = wc.map Prod.fst)
    (hn : As.length = n) (hsz : ls.size = nL) (hst : st0 = As.reverse ++ rest) (hW : 2 * (F0 m pc ls st0).monitorRoom + (rest.map fun v => v.category).sum ≤ 8) (hdg : decode cc pc = .ok (.invokestatic index, 3)) (hf : cells ≤ R.cells ∧ slots ≤ R.slots)
    (kk : ∀ (H1 : Heap) (locs1 : List Loc), va_P G.1 vwCl (wa ++ (w1 ++ wb)) H1 → va_D A (wa ++ (w1 ++ wb)) → va_S A H0 H1 locs1 → W p l e R s m args below meth c H1 locs1 cells slots Q (F0 m (pc + 3) ls (ov.toList ++ rest))) : W p l e R s m args below meth c H locs cells slots Q (F0 m pc ls st0) :=
  wr_go (va_runSN CF (hM H.size) cw ⟨WPc.blind, WPc.at hP.cut.2.1 hY hD.mid⟩ rfl hn hsz hst hW hdg hf) hP hD hS hA he kk
/-! a writer's own end -/
theorem wr_vret (hexec : p.tables.exec = Jvm.exec) (hb : c.code = cc) (hr : meth.sig.returnType = none) (hlk : meth.locks = false) (hS : va_S A s.heap H locs) (hP : va_P G.1 vwCl w0 H) (hw : w0 = w1) (hdg : decode cc pc = .ok (.return_, 1)) :
    W p l e R s m args below meth c H locs 0 0 (MQ below (WQ none G w1 A) args s 0 0 A) (F0 m pc ls []) := by
  subst hw
  exact W.vret hexec hb hr (fun t ht _ => ⟨⟨rfl, by rw [ht]; exact hP⟩, hS.F ht⟩) hS.2.2 hdg hlk
theorem wr_iret {x y' : Int32} (hexec : p.tables.exec = Jvm.exec) (hb : c.code = cc) (hr : meth.sig.returnType = some .int) (hlk : meth.locks = false) (hS : va_S A s.heap H locs) (hP : va_P G.1 vwCl w0 H) (hw : w0 = w1) (hv : x = y') (hdg : decode cc pc = .ok (.ireturn, 1)) :
    W p l e R s m args below meth c H locs 0 0 (MQ below (WQ (some (.int y')) G w1 A) args s 0 0 A) (F0 m pc ls [.int x]) := by
  subst hw; subst hv
  exact W.iret hexec hb hr (fun t ht _ => ⟨⟨rfl, by rw [ht]; exact hP⟩, hS.F ht⟩) hS.2.2 hdg hlk
theorem wr_zret {x y' : Int32} (hexec : p.tables.exec = Jvm.exec) (hb : c.code = cc) (hr : meth.sig.returnType = some .boolean) (hlk : meth.locks = false) (hS : va_S A s.heap H locs) (hP : va_P G.1 vwCl w0 H) (hw : w0 = w1) (hv : x = y') (hn : narrow .boolean (.int x) = .int x) (hdg : decode cc pc = .ok (.ireturn, 1)) :
    W p l e R s m args below meth c H locs 0 0 (MQ below (WQ (some (.int y')) G w1 A) args s 0 0 A) (F0 m pc ls [.int x]) := by
  subst hw; subst hv
  exact W.zret hexec hb hr hn (fun t ht _ => ⟨⟨rfl, by rw [ht]; exact hP⟩, hS.F ht⟩) hS.2.2 hdg hlk
theorem wr_lret {x y' : Int64} (hexec : p.tables.exec = Jvm.exec) (hb : c.code = cc) (hr : meth.sig.returnType = some .long) (hlk : meth.locks = false) (hS : va_S A s.heap H locs) (hP : va_P G.1 vwCl w0 H) (hw : w0 = w1) (hv : x = y') (hdg : decode cc pc = .ok (.lreturn, 1)) :
    W p l e R s m args below meth c H locs 0 0 (MQ below (WQ (some (.long y')) G w1 A) args s 0 0 A) (F0 m pc ls [.long x]) := by
  subst hw; subst hv
  exact W.lret hexec hb hr (fun t ht _ => ⟨⟨rfl, by rw [ht]; exact hP⟩, hS.F ht⟩) hS.2.2 hdg hlk
end BASE
