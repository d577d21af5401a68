theorem lw_pre_spec {args : Array Value} {s : State} (h : (Jvm.Cond.and given_1 narrow_1).before args s = true) (hr : rest_1_c.before args s = true) : ∃ (b : Addr) (xs : List Int32), lw_P b xs args s := by
  have hs := flat_of_before _ h
  have hq := flat_of_before _ hr
  have hc : (Cond.count 1).before args s = true := hs _ (by decide +kernel)
  have harr : (Cond.arrayOf (.arg 0) .int).before args s = true := hs _ (by decide +kernel)
  have hle : (Cond.le (.length (.arg 0)) (.int 260)).before args s = true := hs _ (by decide +kernel)
  have hlen : (Cond.isInt (.length (.arg 0))).before args s = true := hq _ (by decide +kernel)
  have hall : (Cond.all (.arg 0) (.isInt (.elem (.arg 0) (.index 0)))).before args s = true := hq _ (by decide +kernel)
  obtain ⟨b, xs, hb, hx⟩ := State.ints_of_pre rfl harr hlen hall
  have hsm : xs.length < 2 ^ 31 := hx.choose_spec.2.2.2
  have hev : (Term.length (.arg 0)).eval args s none [] s = some (.int xs.length.toInt32) := hx.length_eval hb
  have hv := Cond.le_ints hev (show (Term.int 260).eval args s none [] s = some (.int 260) from rfl)
  have hd : xs.length.toInt32 ≤ 260 := by
    simpa [Cond.before, Cond.holds, hv] using hle
  have hN : xs.length ≤ 260 := (Int32.ofNat_le_ofNat hsm (by decide)).mp (show Int32.ofNat xs.length ≤ Int32.ofNat 260 from hd)
  exact ⟨b, xs, Cond.one_arg hc (show args[0]? = some (.ref b) from hb), hx, hN, h⟩
/-- THE CLAIM IS FALSE, from every start that it allows whose room is wider than the claim's own and whose script's ints 0, 1, 33 are -49, -12, 168: the law comes to a state within itself where more than 290 cells are new, and no heap shrinks -/
theorem p27_refuted (Lm : Cond) {p : Program} {e : Env} {s : State} {m : MethodId} {args : Array Value} {below : List Frame} (l : Launch) (S0 : AtStart classFile x code maxLocals ret World_1 tables_1 room_1 Calls_1 rest_1 Pre_1 l p e s m args below) (hflags : l.flags = flags0) (hroom : s.hasRoom e.platform bigR = true) {b : Nat} {scr : Cell} (ha : args = #[.ref b]) (hc : s.heap[b]? = some scr) (h0 : scr.slots[0]? = some (.int (-49))) (h1 : scr.slots[1]? = some (.int (-12))) (h33 : scr.slots[33]? = some (.int 168)) : ¬ ArmFor flags0 classFile x code maxLocals ret World_1 tables_1 room_1 Calls_1 rest_1 Pre_1 (fun tb e a s o t => postC Lm tb e a s o t ∧ Framed s o t (fieldLocs frame_1_writes a s ++ arrayLocs frame_1_arrays a s ++ staticLocs frame_1_statics s) 290 6445) := by
  intro hC
  obtain ⟨hL, hW, had, hle, hcas, hclk, hf, hfit, hhp, happ, hcal, hrest, hpre⟩ := S0
  obtain ⟨n, o, hwith, hrun, hend, hpost⟩ := hC l hflags hL hW p e had hcas hclk s m args below hf hfit hhp happ ⟨hcal, hrest, hpre⟩
  have hsz : (stepsAlone p.tables e n s).heap.size ≤ s.heap.size + 290 := hpost.2.2.2.2.2.1
  have happ2 : (headSpec (Cond.code x code maxLocals ret :: tables_1) bigR).applies x e.platform s = true := by
    obtain ⟨a1, a2, a3, a4, a5, a6, -, a8⟩ := (Spec.applies_iff hf).mp happ
    exact (Spec.applies_iff hf).mpr ⟨a1, a2, a3, a4, a5, a6, hroom, a8⟩
  obtain ⟨meth, c, B0, hcode, hml0, hst⟩ := Body.of_applies (code := code) (maxLocals := maxLocals) (ret := ret) (by decide) (fun args s h => atoms_spec (ws := Cond.code x code maxLocals ret :: tables_1) h _ List.mem_cons_self) p had hcas hclk hf happ2
  obtain ⟨-, -, -, -, -, hripe, -, -⟩ := (Spec.appliesLoose_iff hf).mp ((Spec.applies_iff_loose hf).mp happ2).1
  have B : BodyLoose p l x (headSpec (Cond.code x code maxLocals ret :: tables_1) bigR) code maxLocals ret e s m args below meth c (s.setFrames (.java (entryFrame m args maxLocals) :: below)) := ⟨had, hcas, hclk, B0.exec, hf, B0.named, B0.hears, hripe, B0.room, B0.pre, B0.method, B0.returns, B0.notSynchronized, B0.bytes, rfl, B0.here⟩
  obtain ⟨b', xs, hab, hxs, hlen, hgv⟩ := lw_pre_spec hpre hrest
  obtain ⟨scr', harrAt, hlist, hof, hsmall⟩ := hxs
  obtain rfl : b' = b := by
    have h9 := hab.symm.trans ha
    simpa using h9
  subst hab
  obtain ⟨hcb, hkn, -, -⟩ := State.arrayAt?_spec harrAt
  obtain rfl : scr' = scr := Option.some.inj (hcb.symm.trans hc)
  have hown : s.vm.findClass R_law = some m.cls := findClass_of_methodNamed B.named
  have hts0 : ∀ c ∈ (Jvm.Cond.code x code maxLocals ret :: tables_1), c.before #[Value.ref b'] s = true := atoms_spec (ws := Jvm.Cond.code x code maxLocals ret :: tables_1) B.pre
  have hts : ∀ w ∈ lw_tbl, w.before #[Value.ref b'] s = true := k2_hts_sels lw_privs (fun w hw => hts0 w (List.mem_cons_of_mem _ hw)) lw_privs_ok
  have hml : c.maxLocals = 17 := B.maxLocals_eq (hts0 _ List.mem_cons_self)
  have hsl : scr'.slots.size = xs.length := by rw [← Array.length_toList, hlist, List.length_map]
  have hval : ∀ j : Nat, j < xs.length → scr'.slots[j]? = some (.int (xs.getD j 0)) := fun j hj => by
    rw [← Array.getElem?_toList, hlist]
    simp [hj]
  have hbl : b' < s.heap.size := (Array.getElem?_eq_some_iff.mp hcb).1
  have hX : va_X b' xs.length (fun j => xs.getD j 0) s s.heap := ⟨scr', hcb, hof, hkn, hsl, hval⟩
  have hL34 : 34 ≤ xs.length := by
    have h9 := (Array.getElem?_eq_some_iff.mp h33).1
    omega
  have hgt : ∀ (j : Nat) (v : Int32), j < 34 → scr'.slots[j]? = some (.int v) → xs.getD j 0 = v := fun j v hj h => by
    have h9 := (hval j (by omega)).symm.trans h
    exact Value.int.inj (Option.some.inj h9)
  have K := law_big (p := p) (e := e) (s := s) (m := m) (below := below) (meth := meth) (c := c) l hflags (b := b') (L := xs.length) (xs := fun j => xs.getD j 0) hL34 hlen (hgt 0 _ (by decide) h0) (hgt 1 _ (by decide) h1) (hgt 33 _ (by decide) h33) ⟨B.exec, B.bytes, B.returns, hml, hown, hts, hX, hbl, B.notSynchronized, hgv⟩
  obtain ⟨t, a1, a2, a3⟩ := K (s.setFrames (.java (entryFrame m #[.ref b'] maxLocals) :: below)) rfl (Stand.of_body B)
  obtain ⟨k, hk1, hk2⟩ := Steps.moment (Steps.trans hst a1) a3
  have hkn : k < n := by
    rcases Nat.lt_or_ge k n with h | h
    · exact h
    · exact absurd (hk1 n h) hend.not_within
  have h9 := stepsAlone_heap_le p.tables e (n - k) t
  rw [← hk2, ← stepsAlone_add, show k + (n - k) = n by omega, hk2] at h9
  omega
