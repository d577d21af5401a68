/-! methods that catch: they return, whichever way the call in them goes -/
section BASE5
variable {p : Program} {l : Launch} {e : Env} {R : Room} {s : State} {m : MethodId} {args : Array Value} {below : List Frame} {meth : Method} {c : Code} {H : Heap} {locs : List Loc} {cells slots : Nat} {Q : State → Prop}
variable {y : MethodName} {bytes cc : ByteArray} {maxL nL n index pc ci N : Nat} {ret : Option FieldType} {wy : List Cond} {rm : Room} {Ts : List Cond} {own C host : String} {b : Addr} {As rest st0 av : List Value} {ls : Array Slot} {G : GT} {w0 w1 wa wc wb : va_W} {fs : List Value} {T : u_T} {v : Value} {ov : Option Value} {A : Nat → Prop} {H0 : Heap} {E : String}
theorem met_ofWH {ws ws' : List Cond} {Pc : Array Value → State → Prop} {Qc : Array Value → State → Outcome → State → Prop} {mc ms : Nat} {free : Addr → Prop} {hh : List (Nat × Nat × Nat × Nat)}
    (hy : plainName y.cls = true) (hw : ws = Cond.codeWith y cc maxL ret hh :: ws')
    (body : ∀ p e s m args below meth c s₁, BodyLoose p l y (headSpec ws rm) cc maxL ret e s m args below meth c s₁ → c.maxLocals = maxL → Pc args s →
      W p l e (headSpec ws rm).room s m args below meth c s.heap [] 0 0 (MQ below Qc args s mc ms free) (entryFrame m args maxL)) : Met l y ws rm Pc Qc mc ms free := by
  refine MetFree.of_bodyS (code := cc) (maxLocals := maxL) (ret := ret) hy ?_ ?_
  · intro args s m h hn
    obtain ⟨m9, meth, c, hn9, h1, h2, h3, h4, -, h5, h6, -⟩ := Cond.codeWith_spec (atoms_spec (ws := ws) h _ (by rw [hw]; exact List.mem_cons_self))
    cases hn.symm.trans hn9
    exact ⟨meth, c, h1, h2, h3, h4, h5, h6⟩
  · intro p e s m args below meth c s₁ B hml hP _
    have hh0 : s₁.heap = s.heap := by rw [B.state]; rfl
    obtain ⟨t, a1, o, b1, b2, b3⟩ := body p e s m args below meth c s₁ B hml hP s₁ hh0 (Stand.of_body B)
    exact ⟨t, o, a1, b1, b2, ⟨b3.1, b3.2⟩⟩
/-- world for world, and the heap has grown by k cells at the least -/
def GQ (k : Nat) (ov : Option Value) (G : GT) (w1 : va_W) (A : Nat → Prop) : Array Value → State → Outcome → State → Prop := fun a st o t => WQ ov G w1 A a st o t ∧ st.heap.size + k ≤ t.heap.size
abbrev Ck (k mc ms : Nat) (l : Launch) (y : MethodName) (wy : List Cond) (rm : Room) (G : GT) (w0 w1 : va_W) (av : List Value) (ov : Option Value) : Prop := ∀ sz : Nat, Met l y wy rm (NPc G w0 sz av) (GQ k ov G w1 (va_A w0 sz)) mc ms (va_A w0 sz)
theorem ck_iret {k mc ms : Nat} {x y' : Int32} (hexec : p.tables.exec = Jvm.exec) (hb : c.code = cc) (hr : meth.sig.returnType = some .int) (hlk : meth.locks = false) (hS : va_S A s.heap H locs) (hP : va_P G.1 vwCl w0 H) (hg : s.heap.size + k ≤ H.size) (hw : w0 = w1) (hv : x = y') (hdg : decode cc pc = .ok (.ireturn, 1)) :
    W p l e R s m args below meth c H locs mc ms (MQ below (GQ k (some (.int y')) G w1 A) args s mc ms A) (F0 m pc ls [.int x]) := by
  subst hw; subst hv
  exact W.iret hexec hb hr (fun t ht _ => ⟨⟨⟨rfl, by rw [ht]; exact hP⟩, hS.F ht⟩, by rw [ht]; exact hg⟩) hS.2.2 hdg hlk
theorem ck_lret {k mc ms : Nat} {x y' : Int64} (hexec : p.tables.exec = Jvm.exec) (hb : c.code = cc) (hr : meth.sig.returnType = some .long) (hlk : meth.locks = false) (hS : va_S A s.heap H locs) (hP : va_P G.1 vwCl w0 H) (hg : s.heap.size + k ≤ H.size) (hw : w0 = w1) (hv : x = y') (hdg : decode cc pc = .ok (.lreturn, 1)) :
    W p l e R s m args below meth c H locs mc ms (MQ below (GQ k (some (.long y')) G w1 A) args s mc ms A) (F0 m pc ls [.long x]) := by
  subst hw; subst hv
  exact W.lret hexec hb hr (fun t ht _ => ⟨⟨⟨rfl, by rw [ht]; exact hP⟩, hS.F ht⟩, by rw [ht]; exact hg⟩) hS.2.2 hdg hlk
theorem ck_zret {k mc ms : Nat} {x y' : Int32} (hexec : p.tables.exec = Jvm.exec) (hb : c.code = cc) (hr : meth.sig.returnType = some .boolean) (hlk : meth.locks = false) (hS : va_S A s.heap H locs) (hP : va_P G.1 vwCl w0 H) (hg : s.heap.size + k ≤ H.size) (hw : w0 = w1) (hv : x = y') (hn : narrow .boolean (.int x) = .int x) (hdg : decode cc pc = .ok (.ireturn, 1)) :
    W p l e R s m args below meth c H locs mc ms (MQ below (GQ k (some (.int y')) G w1 A) args s mc ms A) (F0 m pc ls [.int x]) := by
  subst hw; subst hv
  exact W.zret hexec hb hr hn (fun t ht _ => ⟨⟨⟨rfl, by rw [ht]; exact hP⟩, hS.F ht⟩, by rw [ht]; exact hg⟩) hS.2.2 hdg hlk
theorem va_P.apr {a b : va_W} (h : va_P G.1 vwCl (a ++ b) H) : va_P G.1 vwCl b H := by
  rw [va_P.mem] at h ⊢
  exact fun q hq => h q (List.mem_append_right _ hq)
theorem ckS {k mc ms : Nat} (wa wc wb w1 : va_W) {hh : List (Nat × Nat × Nat × Nat)} (CF : CallFix p m c cc nL s args Ts own) (hM : Ck k mc ms l y wy rm G wc w1 As ov) (cw : vx_CSW R s args own index y bytes maxL ret hh wy rm mc ms n) (hP : va_P G.1 vwCl (wa ++ (wc ++ wb)) H) (hD : va_D A (wa ++ (wc ++ wb))) (hS : va_S A s.heap H locs) (hA : ∀ q, s.heap.size ≤ q → A q) (hY : Sy G s) (hZ : Zs A s s.heap) (he : w1.map Prod.fst = wc.map Prod.fst)
    (hn : As.length = n) (hsz : ls.size = nL) (hst : st0 = As.reverse ++ rest) (hW : 2 * (F0 m pc ls st0).monitorRoom + (rest.map fun v => v.category).sum ≤ 8) (hdg : decode cc pc = .ok (.invokestatic index, 3)) (hf : cells + mc ≤ R.cells ∧ slots + ms ≤ R.slots)
    (kk : ∀ (H1 : Heap) (locs1 : List Loc), va_P G.1 vwCl (wa ++ (w1 ++ wb)) H1 → va_D A (wa ++ (w1 ++ wb)) → va_S A s.heap H1 locs1 → H.size + k ≤ H1.size → W p l e R s m args below meth c H1 locs1 (cells + mc) (slots + ms) Q (F0 m (pc + 3) ls (ov.toList ++ rest))) : W p l e R s m args below meth c H locs cells slots Q (F0 m pc ls st0) := by
  have hr := vx_runSW CF (hM H.size) cw ⟨NPc.blind, NPc.at hP.cut.2.1 hY hD.mid hZ hS (va_A.free hD.mid hS hA)⟩ (rest := rest) (cells := cells) (slots := slots) (locs := locs) (meth := meth) (g := F0 m pc ls st0) (below := below) (e := e) rfl hn hsz hst hW hdg hf
  intro T hT X
  have hfr := va_A.free hD.mid hS hA
  obtain ⟨v', st₀, t, T2, L, h0, X', hL, e1, e2, ⟨⟨⟨hv', hp⟩, hz, hk⟩, hgr⟩, st⟩ := hr T hT X
  cases hv'
  rw [h0] at hz hk hgr
  rw [← e1] at hz hk hp hgr
  obtain ⟨t2, a1, b1⟩ := kk T2.heap (locs ++ L) (wr_join hP hD hk hp) (hD.re (by simp [he])) ⟨Nat.le_trans hS.1 hz, fun q h1 h2 => by rw [hk q (Nat.lt_of_lt_of_le h1 hS.1) (fun z => h2 (hfr q z))]; exact hS.2.1 q h1 h2, fun q hq => by
      rcases List.mem_append.mp hq with h | h
      · exact hS.2.2 q h
      · exact hfr _ (hL q h)⟩ hgr T2 rfl X'
  exact ⟨t2, st t2 a1, b1⟩
theorem ckS0 {k mc ms : Nat} (wa wc wb w1 : va_W) (CF : CallFix p m c cc nL s args Ts own) (hM : Ck k mc ms l y wy rm G wc w1 As ov) (cw : CallB R s args own index y bytes maxL ret wy rm mc ms n ∧ (Cond.static y).before args s = true) (hP : va_P G.1 vwCl (wa ++ (wc ++ wb)) H) (hD : va_D A (wa ++ (wc ++ wb))) (hS : va_S A s.heap H locs) (hA : ∀ q, s.heap.size ≤ q → A q) (hY : Sy G s) (hZ : Zs A s s.heap) (he : w1.map Prod.fst = wc.map Prod.fst)
    (hn : As.length = n) (hsz : ls.size = nL) (hst : st0 = As.reverse ++ rest) (hW : 2 * (F0 m pc ls st0).monitorRoom + (rest.map fun v => v.category).sum ≤ 8) (hdg : decode cc pc = .ok (.invokestatic index, 3)) (hf : cells + mc ≤ R.cells ∧ slots + ms ≤ R.slots)
    (kk : ∀ (H1 : Heap) (locs1 : List Loc), va_P G.1 vwCl (wa ++ (w1 ++ wb)) H1 → va_D A (wa ++ (w1 ++ wb)) → va_S A s.heap H1 locs1 → H.size + k ≤ H1.size → W p l e R s m args below meth c H1 locs1 (cells + mc) (slots + ms) Q (F0 m (pc + 3) ls (ov.toList ++ rest))) : W p l e R s m args below meth c H locs cells slots Q (F0 m pc ls st0) := by
  have hr := va_runS CF (hM H.size) cw ⟨NPc.blind, NPc.at hP.cut.2.1 hY hD.mid hZ hS (va_A.free hD.mid hS hA)⟩ (rest := rest) (cells := cells) (slots := slots) (locs := locs) (meth := meth) (g := F0 m pc ls st0) (below := below) (e := e) rfl hn hsz hst hW hdg hf
  intro T hT X
  have hfr := va_A.free hD.mid hS hA
  obtain ⟨v', st₀, t, T2, L, h0, X', hL, e1, e2, ⟨⟨⟨hv', hp⟩, hz, hk⟩, hgr⟩, st⟩ := hr T hT X
  cases hv'
  rw [h0] at hz hk hgr
  rw [← e1] at hz hk hp hgr
  obtain ⟨t2, a1, b1⟩ := kk T2.heap (locs ++ L) (wr_join hP hD hk hp) (hD.re (by simp [he])) ⟨Nat.le_trans hS.1 hz, fun q h1 h2 => by rw [hk q (Nat.lt_of_lt_of_le h1 hS.1) (fun z => h2 (hfr q z))]; exact hS.2.1 q h1 h2, fun q hq => by
      rcases List.mem_append.mp hq with h | h
      · exact hS.2.2 q h
      · exact hfr _ (hL q h)⟩ hgr T2 rfl X'
  exact ⟨t2, st t2 a1, b1⟩
end BASE5
theorem vp_0_1 : vp_in (0 : Int32) 1 := by unfold vp_in; decide
