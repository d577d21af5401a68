/-! void readers, throwers: a method is either called where it returns, or where it throws -/
section BASE2
variable {p : Program} {l : Launch} {e : Env} {R : Room} {s : State} {m : MethodId} {args : Array Value} {below : List Frame} {meth : Method} {c : Code} {H : Heap} {locs : List Loc} {cells slots : Nat} {Q : State → Prop}
variable {y : MethodName} {bytes cc : ByteArray} {maxL nL n index pc ci N : Nat} {ret : Option FieldType} {wy : List Cond} {rm : Room} {Ts : List Cond} {own C host : String} {b : Addr} {As rest st0 av : List Value} {ls : Array Slot} {G : GT} {w0 w1 wa wc wb : va_W} {fs : List Value} {T : u_T} {v : Value} {ov : Option Value} {A : Nat → Prop} {H0 : Heap} {E : String}
def RV : Array Value → State → Outcome → State → Prop := fun _ st o t => o = .returned none ∧ t.heap = st.heap
abbrev Rv (l : Launch) (y : MethodName) (wy : List Cond) (rm : Room) (G : GT) (w0 : va_W) (av : List Value) : Prop := Met l y wy rm (RPc G w0 av) RV 0 0 (fun _ => False)
theorem rv_go {a : Array Value} (hr : va_Run p l e R s m args below meth c H locs cells slots 0 0 (F0 m pc ls st0) rest (RV a) (fun _ => False))
    (kk : W p l e R s m args below meth c H locs cells slots Q (F0 m (pc + 3) ls rest)) : W p l e R s m args below meth c H locs cells slots Q (F0 m pc ls st0) := by
  intro T hT X
  obtain ⟨v', st₀, t, T', L, h0, X', hL, e1, e2, ⟨hv, hh⟩, st⟩ := hr T hT X
  cases hv
  obtain ⟨t2, a1, b1⟩ := kk T' (by rw [e1, hh, h0]) (Stand.forget X' (fun q h => (hL q h).elim))
  exact ⟨t2, st t2 a1, b1⟩
theorem rvS (CF : CallFix p m c cc nL s args Ts own) (hM : Rv l y wy rm G w0 As) (cw : CallB R s args own index y bytes maxL ret wy rm 0 0 n ∧ (Cond.static y).before args s = true) (hP : va_P G.1 vwCl w0 H) (hY : Sy G s)
    (hn : As.length = n) (hsz : ls.size = nL) (hst : st0 = As.reverse ++ rest) (hW : 2 * (F0 m pc ls st0).monitorRoom + (rest.map fun v => v.category).sum ≤ 8) (hdg : decode cc pc = .ok (.invokestatic index, 3)) (hf : cells ≤ R.cells ∧ slots ≤ R.slots)
    (kk : W p l e R s m args below meth c H locs cells slots Q (F0 m (pc + 3) ls rest)) : W p l e R s m args below meth c H locs cells slots Q (F0 m pc ls st0) :=
  rv_go (va_runS CF hM cw ⟨RPc.blind, RPc.at hP hY⟩ rfl hn hsz hst hW hdg hf) kk
theorem rv_vret (hexec : p.tables.exec = Jvm.exec) (hb : c.code = cc) (hr : meth.sig.returnType = none) (hlk : meth.locks = false) (hdg : decode cc pc = .ok (.return_, 1)) :
    W p l e R s m args below meth c s.heap [] 0 0 (MQ below RV args s 0 0 (fun _ => False)) (F0 m pc ls []) :=
  W.vret hexec hb hr (fun t ht _ => ⟨rfl, ht⟩) (fun q h => nomatch h) hdg hlk
theorem wr_aret {a y' : Nat} {rt : FieldType} (hexec : p.tables.exec = Jvm.exec) (hb : c.code = cc) (hr : meth.sig.returnType = some rt) (hlk : meth.locks = false) (hrt : (∃ n, rt = .object n) ∨ ∃ t, rt = .array t) (hS : va_S A s.heap H locs) (hP : va_P G.1 vwCl w0 H) (hw : w0 = w1) (hv : a = y') (hdg : decode cc pc = .ok (.areturn, 1)) :
    W p l e R s m args below meth c H locs 0 0 (MQ below (WQ (some (.ref y')) G w1 A) args s 0 0 A) (F0 m pc ls [.ref a]) := by
  subst hw; subst hv
  exact W.aret hexec hb hr hrt (Or.inr ⟨_, rfl⟩) (fun t ht _ => ⟨⟨rfl, by rw [ht]; exact hP⟩, hS.F ht⟩) hS.2.2 hdg hlk
/-- a reader's contract serves where a writer's is called, and the other way about not -/
def dcL : List MethodName := [Bundle.initS "java/lang/RuntimeException", Bundle.initS "java/lang/Exception", Bundle.initS Bundle.tN]
def Zs (A : Nat → Prop) (U : State) (H : Heap) : Prop := vx_Zq Bundle.tN "UNASSIGNED_STACK" Bundle.steD A U H ∧ vx_Zq Bundle.tN "SUPPRESSED_SENTINEL" Bundle.listD A U H ∧ ∀ x ∈ dcL, va_Nw (.declares x) U
theorem Zs.kept {U : State} {H1 : Heap} (h : Zs A U H) (hq : ∀ a : Nat, a < H.size → ¬ A a → H1[a]? = H[a]?) : Zs A U H1 := ⟨h.1.kept hq, h.2.1.kept hq, h.2.2⟩
theorem Zs.narrow {U : State} {B : Nat → Prop} (h : Zs A U H) (hAB : ∀ q, B q → A q) : Zs B U H := ⟨h.1.narrow hAB, h.2.1.narrow hAB, h.2.2⟩
theorem Zs.moved {u U : State} (hvm : u.vm.Alike U.vm) (h : Zs A u H) : Zs A U H := ⟨vx_Zq.moved hvm h.1, vx_Zq.moved hvm h.2.1, fun x hx => va_tabs rfl (rfl : (u.setVm U.vm).vm = U.vm) (by rw [Cond.declares_setVm hvm]; exact h.2.2 x hx)⟩
def NQ : Array Value → State → Outcome → State → Prop := fun _ _ _ _ => False
def FX (E : String) (G : GT) (w1 : va_W) (A : Nat → Prop) : String → State → State → Prop := fun F st t => F = E ∧ va_P G.1 vwCl w1 t.heap ∧ va_F A st t ∧ st.heap.size < t.heap.size
abbrev NPc (G : GT) (w0 : va_W) (sz : Nat) (av : List Value) : Array Value → State → Prop := va_Pc av (fun U => U.heap.size = sz ∧ va_P G.1 vwCl w0 U.heap ∧ Sy G U ∧ va_D (fun _ => True) w0 ∧ Zs (va_A w0 sz) U U.heap)
abbrev No (l : Launch) (y : MethodName) (wy : List Cond) (rm : Room) (G : GT) (w0 w1 : va_W) (av : List Value) (E : String) : Prop := ∀ sz : Nat, vx_Met l y wy rm (NPc G w0 sz av) NQ (FX E G w1 (va_A w0 sz)) 1 6 (va_A w0 sz)
theorem NPc.blind {sz : Nat} : FrameBlind (NPc G w0 sz av) := fun a U g mk q => ⟨q.1, q.2.1, q.2.2.1, Sy.same (s := U) rfl q.2.2.2.1, q.2.2.2.2.1, Zs.moved (u := U) (Vm.Alike.refl U.vm) q.2.2.2.2.2⟩
theorem NPc.at (hP : va_P G.1 vwCl w0 H) (hY : Sy G s) (hD : va_D A w0) (hZ : Zs A s s.heap) (hS : va_S A s.heap H locs) (hf : ∀ q, va_A w0 H.size q → A q) : ∀ U : State, U.heap = H → s.WarmedH U.vm → NPc G w0 H.size av av.toArray U := fun U hU hW =>
  ⟨rfl, by rw [hU], by rw [hU]; exact hP, Sy.warm hW hY, hD.weaken (fun _ _ _ _ => trivial), by rw [hU]; exact ((hZ.kept hS.2.1).moved hW.alike).narrow hf⟩
theorem tx_go {a : Array Value} (hr : vx_Run p l e R s m args below meth c H locs cells slots 1 6 (F0 m pc ls st0) rest (NQ a) (FX E G w1 (va_A wc H.size)) (va_A wc H.size))
    (hP : va_P G.1 vwCl (wa ++ (wc ++ wb)) H) (hD : va_D A (wa ++ (wc ++ wb))) (hS : va_S A H0 H locs) (hA : ∀ q, H0.size ≤ q → A q) (he : w1.map Prod.fst = wc.map Prod.fst)
    (kx : ∀ (ce : Cell) (q9 : Addr) (H1 : Heap) (locs1 : List Loc), va_P G.1 vwCl (wa ++ (w1 ++ wb)) H1 → va_D A (wa ++ (w1 ++ wb)) → va_S A H0 H1 locs1 → H1[q9]? = some ce → ce.vm = .none → s.vm.findClass E = some ce.cls → H0.size < H1.size ∧ H.size < H1.size → vx_W p l e R s m args below meth c H1 locs1 (cells + 1) (slots + 6) Q (F0 m pc ls rest) q9) : W p l e R s m args below meth c H locs cells slots Q (F0 m pc ls st0) := by
  intro T hT X
  have hf := va_A.free hD.mid hS hA
  rcases hr T hT X with ⟨v', st₀, t, T', L, h0, X', hL, e1, e2, hq, st⟩ | ⟨q, st₀, t, T', L, E', ce, h0, X', hL, e1, e2, ⟨hE, hp, ⟨hz, hk⟩, hgr⟩, hce, hcv, hcl, st⟩
  · exact (show False from hq).elim
  · subst hE
    rw [h0] at hz hk hgr
    rw [← e1] at hz hk hp hce hgr
    obtain ⟨t2, a1, b1⟩ := kx ce q T'.heap (locs ++ L) (wr_join hP hD hk hp) (hD.re (by simp [he])) ⟨Nat.le_trans hS.1 hz, fun q h1 h2 => by rw [hk q (Nat.lt_of_lt_of_le h1 hS.1) (fun z => h2 (hf q z))]; exact hS.2.1 q h1 h2, fun q hq => by
      rcases List.mem_append.mp hq with h | h
      · exact hS.2.2 q h
      · exact hf _ (hL q h)⟩ hce hcv hcl ⟨Nat.lt_of_le_of_lt hS.1 hgr, hgr⟩ T' rfl X'
    exact ⟨t2, st.trans a1, b1⟩
theorem noV (wa wc wb w1 : va_W) (CF : CallFix p m c cc nL s args Ts own) (hM : No l y wy rm G wc w1 (.ref b :: As) E) (cw : CallW R s args own C index y bytes maxL ret wy rm 1 6 n) (hP : va_P G.1 vwCl (wa ++ (wc ++ wb)) H) (hD : va_D A (wa ++ (wc ++ wb))) (hS : va_S A s.heap H locs) (hA : ∀ q, s.heap.size ≤ q → A q) (hY : Sy G s) (hZ : Zs A s s.heap) (hw0 : wc[0]? = some (b, .inr (ci, fs))) (hc : vwCl[ci]? = some (C, T, N)) (he : w1.map Prod.fst = wc.map Prod.fst)
    (hn : As.length = n) (hsz : ls.size = nL) (hst : st0 = As.reverse ++ .ref b :: rest) (hW : 2 * (F0 m pc ls st0).monitorRoom + (rest.map fun v => v.category).sum ≤ 8) (hdg : decode cc pc = .ok (.invokevirtual index, 3)) (hf : cells + 1 ≤ R.cells ∧ slots + 6 ≤ R.slots)
    (kx : ∀ (ce : Cell) (q9 : Addr) (H1 : Heap) (locs1 : List Loc), va_P G.1 vwCl (wa ++ (w1 ++ wb)) H1 → va_D A (wa ++ (w1 ++ wb)) → va_S A s.heap H1 locs1 → H1[q9]? = some ce → ce.vm = .none → s.vm.findClass E = some ce.cls → s.heap.size < H1.size ∧ H.size < H1.size → vx_W p l e R s m args below meth c H1 locs1 (cells + 1) (slots + 6) Q (F0 m pc ls rest) q9) : W p l e R s m args below meth c H locs cells slots Q (F0 m pc ls st0) :=
  tx_go (vx_runV CF (hM H.size) cw ⟨NPc.blind, rv_of hY hP.cut.2.1 hw0 hc, NPc.at hP.cut.2.1 hY hD.mid hZ hS (va_A.free hD.mid hS hA)⟩ rfl hn hsz hst hW hdg hf) hP hD hS hA he kx
theorem noS0 (CF : CallFix p m c cc nL s args Ts own) (hM : No l y wy rm G [] [] As E) (cw : CallB R s args own index y bytes maxL ret wy rm 1 6 n ∧ (Cond.static y).before args s = true) (hP : va_P G.1 vwCl w0 H) (hD : va_D A w0) (hS : va_S A s.heap H locs) (hA : ∀ q, s.heap.size ≤ q → A q) (hY : Sy G s) (hZ : Zs A s s.heap)
    (hn : As.length = n) (hsz : ls.size = nL) (hst : st0 = As.reverse ++ rest) (hW : 2 * (F0 m pc ls st0).monitorRoom + (rest.map fun v => v.category).sum ≤ 8) (hdg : decode cc pc = .ok (.invokestatic index, 3)) (hf : cells + 1 ≤ R.cells ∧ slots + 6 ≤ R.slots)
    (kx : ∀ (ce : Cell) (q9 : Addr) (H1 : Heap) (locs1 : List Loc), va_P G.1 vwCl w0 H1 → va_D A w0 → va_S A s.heap H1 locs1 → H1[q9]? = some ce → ce.vm = .none → s.vm.findClass E = some ce.cls → s.heap.size < H1.size ∧ H.size < H1.size → vx_W p l e R s m args below meth c H1 locs1 (cells + 1) (slots + 6) Q (F0 m pc ls rest) q9) : W p l e R s m args below meth c H locs cells slots Q (F0 m pc ls st0) := by
  have e0 : w0 = w0 ++ (([] : va_W) ++ []) := by simp
  have hP' : va_P G.1 vwCl (w0 ++ (([] : va_W) ++ [])) H := by rw [← e0]; exact hP
  have hD' : va_D A (w0 ++ (([] : va_W) ++ [])) := by rw [← e0]; exact hD
  exact tx_go (vx_runS CF (hM H.size) cw ⟨NPc.blind, NPc.at hP'.cut.2.1 hY hD'.mid hZ hS (va_A.free hD'.mid hS hA)⟩ rfl hn hsz hst hW hdg hf) hP' hD' hS hA rfl (fun ce q9 H1 locs1 h1 h2 => kx ce q9 H1 locs1 (by rw [e0]; exact h1) (by rw [e0]; exact h2))
theorem no_out {ce : Cell} {q9 : Addr} {Hb : Heap} (ht : ∀ x ∈ c.exceptionTable.toList, False) (hlk : meth.locks = false) (hcell : H[q9]? = some ce) (hv : ce.vm = .none) (hcl : s.vm.findClass E = some ce.cls) (hgr : s.heap.size < H.size ∧ Hb.size < H.size) (hS : va_S A s.heap H locs) (hP : va_P G.1 vwCl w0 H) (hw : w0 = w1) :
    vx_W p l e R s m args below meth c H locs (0 + 1) (0 + 6) (vx_MQ below NQ (FX E G w1 A) args s 1 6 A) (F0 m pc ls rest) q9 := by
  subst hw
  exact vx_out (fun x hx => (ht x hx).elim) hlk hcell hv hcl (fun t ht' _ => ⟨rfl, by rw [ht']; exact hP, hS.F ht', by rw [ht']; exact hgr.1⟩) hS.2.2 (Nat.le_refl _) (Nat.le_refl _)
end BASE2
abbrev okA (v lo hi : Int32) : Prop := ¬ v < lo ∧ v ≤ hi
abbrev okP (v n : Int32) : Prop := ¬ v < 0 ∧ v < n
