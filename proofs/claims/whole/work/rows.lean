section
-- ===== PART A: goes FIRST, ahead of the names: the tables' words, and 'selects' of the private methods out of them =====
/-- a private method of a class that the tables say can be made, by its rows of tables_1 -/
def lw_okq (q : MethodName × Nat) : Prop := (q.1.cls ≠ "java/lang/invoke/MethodHandle" ∧ q.1.cls ≠ "java/lang/invoke/VarHandle") ∧ Cond.instantiable q.1.cls q.2 ∈ tables_1 ∧ Cond.privateMethod q.1 ∈ tables_1 ∧ Cond.instanceMethod q.1 ∈ tables_1
theorem lw_p0 : lw_okq (⟨"ReservoirReed", "startAgain", "(II)V"⟩, 5) := ⟨⟨by decide +kernel, by decide +kernel⟩, List.mem_of_getElem? (i := 17) (by decide +kernel), List.mem_of_getElem? (i := 191) (by decide +kernel), List.mem_of_getElem? (i := 192) (by decide +kernel)⟩
theorem lw_p1 : lw_okq (⟨"java/lang/Throwable", "fillInStackTrace", "(I)Ljava/lang/Throwable;"⟩, 6) := ⟨⟨by decide +kernel, by decide +kernel⟩, List.mem_of_getElem? (i := 289) (by decide +kernel), List.mem_of_getElem? (i := 287) (by decide +kernel), List.mem_of_getElem? (i := 288) (by decide +kernel)⟩
theorem lw_p2 : lw_okq (⟨"ReservoirReed", "streamOf", "(I)LReservoirReed$Stream;"⟩, 5) := ⟨⟨by decide +kernel, by decide +kernel⟩, List.mem_of_getElem? (i := 17) (by decide +kernel), List.mem_of_getElem? (i := 329) (by decide +kernel), List.mem_of_getElem? (i := 330) (by decide +kernel)⟩
theorem lw_p3 : lw_okq (⟨"ReservoirReed$Priorities", "placeFor", "(II)I"⟩, 6) := ⟨⟨by decide +kernel, by decide +kernel⟩, List.mem_of_getElem? (i := 71) (by decide +kernel), List.mem_of_getElem? (i := 379) (by decide +kernel), List.mem_of_getElem? (i := 380) (by decide +kernel)⟩
theorem lw_p4 : lw_okq (⟨"ReservoirReed$Priorities", "isGreater", "(III)Z"⟩, 6) := ⟨⟨by decide +kernel, by decide +kernel⟩, List.mem_of_getElem? (i := 71) (by decide +kernel), List.mem_of_getElem? (i := 383) (by decide +kernel), List.mem_of_getElem? (i := 384) (by decide +kernel)⟩
theorem lw_p5 : lw_okq (⟨"ReservoirReed$Distinct", "placeFor", "(I)I"⟩, 4) := ⟨⟨by decide +kernel, by decide +kernel⟩, List.mem_of_getElem? (i := 97) (by decide +kernel), List.mem_of_getElem? (i := 402) (by decide +kernel), List.mem_of_getElem? (i := 403) (by decide +kernel)⟩
theorem lw_p6 : lw_okq (⟨"ReservoirReed$Chain", "append", "(III)V"⟩, 6) := ⟨⟨by decide +kernel, by decide +kernel⟩, List.mem_of_getElem? (i := 119) (by decide +kernel), List.mem_of_getElem? (i := 421) (by decide +kernel), List.mem_of_getElem? (i := 422) (by decide +kernel)⟩
theorem lw_p7 : lw_okq (⟨"ReservoirReed", "prioritiesOf", "(I)LReservoirReed$Priorities;"⟩, 5) := ⟨⟨by decide +kernel, by decide +kernel⟩, List.mem_of_getElem? (i := 17) (by decide +kernel), List.mem_of_getElem? (i := 517) (by decide +kernel), List.mem_of_getElem? (i := 518) (by decide +kernel)⟩
theorem lw_p8 : lw_okq (⟨"ReservoirReed", "distinctOf", "(I)LReservoirReed$Distinct;"⟩, 5) := ⟨⟨by decide +kernel, by decide +kernel⟩, List.mem_of_getElem? (i := 17) (by decide +kernel), List.mem_of_getElem? (i := 598) (by decide +kernel), List.mem_of_getElem? (i := 599) (by decide +kernel)⟩
theorem lw_p9 : lw_okq (⟨"ReservoirReedModel", "refused", "(I)Z"⟩, 13) := ⟨⟨by decide +kernel, by decide +kernel⟩, List.mem_of_getElem? (i := 666) (by decide +kernel), List.mem_of_getElem? (i := 724) (by decide +kernel), List.mem_of_getElem? (i := 725) (by decide +kernel)⟩
theorem lw_p10 : lw_okq (⟨"ReservoirReedModel", "noStream", "(II)Z"⟩, 13) := ⟨⟨by decide +kernel, by decide +kernel⟩, List.mem_of_getElem? (i := 666) (by decide +kernel), List.mem_of_getElem? (i := 737) (by decide +kernel), List.mem_of_getElem? (i := 738) (by decide +kernel)⟩
theorem lw_p11 : lw_okq (⟨"ReservoirReedModel", "noGroup", "(III)Z"⟩, 13) := ⟨⟨by decide +kernel, by decide +kernel⟩, List.mem_of_getElem? (i := 666) (by decide +kernel), List.mem_of_getElem? (i := 749) (by decide +kernel), List.mem_of_getElem? (i := 750) (by decide +kernel)⟩
theorem lw_p12 : lw_okq (⟨"ReservoirReedModel", "isOf", "(II)Z"⟩, 13) := ⟨⟨by decide +kernel, by decide +kernel⟩, List.mem_of_getElem? (i := 666) (by decide +kernel), List.mem_of_getElem? (i := 753) (by decide +kernel), List.mem_of_getElem? (i := 754) (by decide +kernel)⟩
theorem lw_p13 : lw_okq (⟨"ReservoirReedModel", "slotOf", "(III)I"⟩, 13) := ⟨⟨by decide +kernel, by decide +kernel⟩, List.mem_of_getElem? (i := 666) (by decide +kernel), List.mem_of_getElem? (i := 765) (by decide +kernel), List.mem_of_getElem? (i := 766) (by decide +kernel)⟩
theorem lw_p14 : lw_okq (⟨"ReservoirReedModel", "inSlot", "(III)I"⟩, 13) := ⟨⟨by decide +kernel, by decide +kernel⟩, List.mem_of_getElem? (i := 666) (by decide +kernel), List.mem_of_getElem? (i := 769) (by decide +kernel), List.mem_of_getElem? (i := 770) (by decide +kernel)⟩
theorem lw_p15 : lw_okq (⟨"ReservoirReedModel", "sampled", "(I)I"⟩, 13) := ⟨⟨by decide +kernel, by decide +kernel⟩, List.mem_of_getElem? (i := 666) (by decide +kernel), List.mem_of_getElem? (i := 789) (by decide +kernel), List.mem_of_getElem? (i := 790) (by decide +kernel)⟩
def lw_privs_1 : List (MethodName × Nat) := [(⟨"ReservoirReed", "startAgain", "(II)V"⟩, 5), (⟨"java/lang/Throwable", "fillInStackTrace", "(I)Ljava/lang/Throwable;"⟩, 6), (⟨"ReservoirReed", "streamOf", "(I)LReservoirReed$Stream;"⟩, 5), (⟨"ReservoirReed$Priorities", "placeFor", "(II)I"⟩, 6), (⟨"ReservoirReed$Priorities", "isGreater", "(III)Z"⟩, 6), (⟨"ReservoirReed$Distinct", "placeFor", "(I)I"⟩, 4), (⟨"ReservoirReed$Chain", "append", "(III)V"⟩, 6), (⟨"ReservoirReed", "prioritiesOf", "(I)LReservoirReed$Priorities;"⟩, 5), (⟨"ReservoirReed", "distinctOf", "(I)LReservoirReed$Distinct;"⟩, 5), (⟨"ReservoirReedModel", "refused", "(I)Z"⟩, 13), (⟨"ReservoirReedModel", "noStream", "(II)Z"⟩, 13), (⟨"ReservoirReedModel", "noGroup", "(III)Z"⟩, 13), (⟨"ReservoirReedModel", "isOf", "(II)Z"⟩, 13), (⟨"ReservoirReedModel", "slotOf", "(III)I"⟩, 13), (⟨"ReservoirReedModel", "inSlot", "(III)I"⟩, 13), (⟨"ReservoirReedModel", "sampled", "(I)I"⟩, 13)]
theorem lw_r1 : ∀ q ∈ lw_privs_1, lw_okq q := List.forall_mem_cons.mpr ⟨lw_p0, List.forall_mem_cons.mpr ⟨lw_p1, List.forall_mem_cons.mpr ⟨lw_p2, List.forall_mem_cons.mpr ⟨lw_p3, List.forall_mem_cons.mpr ⟨lw_p4, List.forall_mem_cons.mpr ⟨lw_p5, List.forall_mem_cons.mpr ⟨lw_p6, List.forall_mem_cons.mpr ⟨lw_p7, List.forall_mem_cons.mpr ⟨lw_p8, List.forall_mem_cons.mpr ⟨lw_p9, List.forall_mem_cons.mpr ⟨lw_p10, List.forall_mem_cons.mpr ⟨lw_p11, List.forall_mem_cons.mpr ⟨lw_p12, List.forall_mem_cons.mpr ⟨lw_p13, List.forall_mem_cons.mpr ⟨lw_p14, List.forall_mem_cons.mpr ⟨lw_p15, fun _ h => absurd h List.not_mem_nil⟩⟩⟩⟩⟩⟩⟩⟩⟩⟩⟩⟩⟩⟩⟩⟩
theorem lw_p16 : lw_okq (⟨"ReservoirReedModel", "all", "(I)I"⟩, 13) := ⟨⟨by decide +kernel, by decide +kernel⟩, List.mem_of_getElem? (i := 666) (by decide +kernel), List.mem_of_getElem? (i := 793) (by decide +kernel), List.mem_of_getElem? (i := 794) (by decide +kernel)⟩
theorem lw_p17 : lw_okq (⟨"ReservoirReedModel", "noPlace", "(II)Z"⟩, 13) := ⟨⟨by decide +kernel, by decide +kernel⟩, List.mem_of_getElem? (i := 666) (by decide +kernel), List.mem_of_getElem? (i := 801) (by decide +kernel), List.mem_of_getElem? (i := 802) (by decide +kernel)⟩
theorem lw_p18 : lw_okq (⟨"ReservoirReedModel", "ranked", "(II)I"⟩, 13) := ⟨⟨by decide +kernel, by decide +kernel⟩, List.mem_of_getElem? (i := 666) (by decide +kernel), List.mem_of_getElem? (i := 805) (by decide +kernel), List.mem_of_getElem? (i := 806) (by decide +kernel)⟩
theorem lw_p19 : lw_okq (⟨"ReservoirReedModel", "isAhead", "(II)Z"⟩, 13) := ⟨⟨by decide +kernel, by decide +kernel⟩, List.mem_of_getElem? (i := 666) (by decide +kernel), List.mem_of_getElem? (i := 809) (by decide +kernel), List.mem_of_getElem? (i := 810) (by decide +kernel)⟩
theorem lw_p20 : lw_okq (⟨"ReservoirReedModel", "thresholdOf", "(I)J"⟩, 13) := ⟨⟨by decide +kernel, by decide +kernel⟩, List.mem_of_getElem? (i := 666) (by decide +kernel), List.mem_of_getElem? (i := 817) (by decide +kernel), List.mem_of_getElem? (i := 818) (by decide +kernel)⟩
theorem lw_p21 : lw_okq (⟨"ReservoirReedModel", "distinctIn", "(I)I"⟩, 13) := ⟨⟨by decide +kernel, by decide +kernel⟩, List.mem_of_getElem? (i := 666) (by decide +kernel), List.mem_of_getElem? (i := 838) (by decide +kernel), List.mem_of_getElem? (i := 839) (by decide +kernel)⟩
theorem lw_p22 : lw_okq (⟨"ReservoirReedModel", "distinct", "(I)I"⟩, 13) := ⟨⟨by decide +kernel, by decide +kernel⟩, List.mem_of_getElem? (i := 666) (by decide +kernel), List.mem_of_getElem? (i := 842) (by decide +kernel), List.mem_of_getElem? (i := 843) (by decide +kernel)⟩
theorem lw_p23 : lw_okq (⟨"ReservoirReedModel", "distinctAt", "(II)I"⟩, 13) := ⟨⟨by decide +kernel, by decide +kernel⟩, List.mem_of_getElem? (i := 666) (by decide +kernel), List.mem_of_getElem? (i := 850) (by decide +kernel), List.mem_of_getElem? (i := 851) (by decide +kernel)⟩
theorem lw_p24 : lw_okq (⟨"ReservoirReedModel", "hashed", "(I)I"⟩, 13) := ⟨⟨by decide +kernel, by decide +kernel⟩, List.mem_of_getElem? (i := 666) (by decide +kernel), List.mem_of_getElem? (i := 854) (by decide +kernel), List.mem_of_getElem? (i := 855) (by decide +kernel)⟩
theorem lw_p25 : lw_okq (⟨"ReservoirReedModel", "noWindow", "(I)Z"⟩, 13) := ⟨⟨by decide +kernel, by decide +kernel⟩, List.mem_of_getElem? (i := 666) (by decide +kernel), List.mem_of_getElem? (i := 875) (by decide +kernel), List.mem_of_getElem? (i := 876) (by decide +kernel)⟩
theorem lw_p26 : lw_okq (⟨"ReservoirReedModel", "runChain", "(I)V"⟩, 13) := ⟨⟨by decide +kernel, by decide +kernel⟩, List.mem_of_getElem? (i := 666) (by decide +kernel), List.mem_of_getElem? (i := 879) (by decide +kernel), List.mem_of_getElem? (i := 880) (by decide +kernel)⟩
def lw_privs_2 : List (MethodName × Nat) := [(⟨"ReservoirReedModel", "all", "(I)I"⟩, 13), (⟨"ReservoirReedModel", "noPlace", "(II)Z"⟩, 13), (⟨"ReservoirReedModel", "ranked", "(II)I"⟩, 13), (⟨"ReservoirReedModel", "isAhead", "(II)Z"⟩, 13), (⟨"ReservoirReedModel", "thresholdOf", "(I)J"⟩, 13), (⟨"ReservoirReedModel", "distinctIn", "(I)I"⟩, 13), (⟨"ReservoirReedModel", "distinct", "(I)I"⟩, 13), (⟨"ReservoirReedModel", "distinctAt", "(II)I"⟩, 13), (⟨"ReservoirReedModel", "hashed", "(I)I"⟩, 13), (⟨"ReservoirReedModel", "noWindow", "(I)Z"⟩, 13), (⟨"ReservoirReedModel", "runChain", "(I)V"⟩, 13)]
theorem lw_r2 : ∀ q ∈ lw_privs_2, lw_okq q := List.forall_mem_cons.mpr ⟨lw_p16, List.forall_mem_cons.mpr ⟨lw_p17, List.forall_mem_cons.mpr ⟨lw_p18, List.forall_mem_cons.mpr ⟨lw_p19, List.forall_mem_cons.mpr ⟨lw_p20, List.forall_mem_cons.mpr ⟨lw_p21, List.forall_mem_cons.mpr ⟨lw_p22, List.forall_mem_cons.mpr ⟨lw_p23, List.forall_mem_cons.mpr ⟨lw_p24, List.forall_mem_cons.mpr ⟨lw_p25, List.forall_mem_cons.mpr ⟨lw_p26, fun _ h => absurd h List.not_mem_nil⟩⟩⟩⟩⟩⟩⟩⟩⟩⟩⟩
def lw_privs : List (MethodName × Nat) := lw_privs_1 ++ (lw_privs_2)
def lw_tbl : List Cond := k2_sels lw_privs ++ tables_1
theorem lw_privs_ok : ∀ q ∈ lw_privs, lw_okq q := by
  show ∀ q ∈ lw_privs_1 ++ (lw_privs_2), lw_okq q
  exact List.forall_mem_append.mpr ⟨lw_r1, lw_r2⟩
-- ===== end of PART A; then your names; then what follows =====
end
section
/-! ===== BEGIN words of one list among another's, by their places ===== -/
theorem goodIn_r {big : List Cond} (ws : List Cond) (ps : List Nat) (hp : ws = ps.filterMap (fun i => big[i]?)) (h : ws.all goodWord = true) : GoodIn big ws := by
  intro w hw
  have h1 := List.all_eq_true.mp h w hw
  rw [hp] at hw
  obtain ⟨i, -, hi⟩ := List.mem_filterMap.mp hw
  have hm : w ∈ big := by first | exact List.mem_of_getElem? hi | exact List.getElem?_mem hi
  exact ⟨hm, good_of_word h1⟩
theorem goodIn_app {big a b : List Cond} (ha : GoodIn big a) (hb : GoodIn big b) : GoodIn big (a ++ b) := fun w h => (List.mem_append.mp h).elim (ha w) (hb w)
theorem goodIn_ca {big a b : List Cond} {c : Cond} (ha : GoodIn big (c :: a)) (hb : GoodIn big b) : GoodIn big (c :: (a ++ b)) := fun w h => (List.mem_cons.mp h).elim (fun e => ha w (List.mem_cons.mpr (Or.inl e))) (fun h => (List.mem_append.mp h).elim (fun h => ha w (List.mem_cons.mpr (Or.inr h))) (hb w))
theorem goodIn_sub {big ws : List Cond} (hm : ∀ w ∈ ws, w ∈ big) (h : ws.all goodWord = true) : GoodIn big ws := fun w hw => ⟨hm w hw, good_of_word (List.all_eq_true.mp h w hw)⟩
/-! ===== END ===== -/

/-! ===== BEGIN exceptions that leave a method, and their catching by the caller (launches without stack traces) ===== -/
section VXA
/-! The laws vx_back, vx_callV, vx_callS, vx_callSW, vx_throw0, vx_throwS follow proofs of the library, with one case more: JvmDerived/Free/Laws.lean (Back.of_free), Shelf42/LK1.lean (callV, callS), Shelf/KitTraced.lean (throwNew0V, throwNewS). -/
/-- where a method has thrown q: the class by its name, the cell, what was written, the world -/
def vx_T (XC : String → State → State → Prop) (st : State) (q : Addr) (t : State) (mc ms : Nat) (free : Addr → Prop) : Prop :=
  ∃ (E : String) (ce : Cell) (L : List Loc), XC E st t ∧ t.heap[q]? = some ce ∧ ce.vm = .none ∧ st.vm.findClass E = some ce.cls ∧ st.WarmedH t.vm ∧ st.sameButNew ({ t with vm := st.vm } : State) L mc ms ∧ ∀ z ∈ L, free z.base
def vx_Q (Qc : Array Value → State → Outcome → State → Prop) (XC : String → State → State → Prop) (mc ms : Nat) (free : Addr → Prop) : Array Value → State → Outcome → State → Prop := fun a st o t =>
  (Qc a st o t ∧ ∃ L, FrameEnd st o t L mc ms ∧ ∀ q ∈ L, free q.base) ∨ ∃ q, o = .threw q ∧ vx_T XC st q t mc ms free
/-- a callee that returns or throws -/
def vx_Met (l : Launch) (y : MethodName) (ws : List Cond) (rm : Room) (Pc : Array Value → State → Prop) (Qc : Array Value → State → Outcome → State → Prop) (XC : String → State → State → Prop) (mc ms : Nat) (free : Addr → Prop) : Prop :=
  MetFree l y (headSpec ws rm) Pc (fun _ _ _ _ _ => True) (vx_Q Qc XC mc ms free)
def vx_Post (XC : String → State → State → Prop) (mc ms : Nat) (free : Addr → Prop) : Pt → Array Value → Addr → Pt → Prop := fun A a q B =>
  ∃ (g : JFrame) (mk : MethodId) (t : State) (L : List Loc) (E : String) (ce : Cell), B.U.heap = t.heap ∧ B.U.vm = t.vm ∧ XC E (A.U.calling g mk a) t ∧ t.heap[q]? = some ce ∧ ce.vm = .none ∧ A.U.vm.findClass E = some ce.cls ∧ B.locs = A.locs ++ L ∧ (∀ z ∈ L, free z.base) ∧ B.cells = A.cells + mc ∧ B.slots = A.slots + ms
def vx_Back (l : Launch) (R : Room) (p : Program) (e : Env) (below : List Frame) (s : State) (sargs : Array Value) (y : MethodName) (len W9 : Nat)
    (Pre : Pt → Array Value → Prop) (Post : Pt → Array Value → Option Value → Pt → Prop) (PostX : Pt → Array Value → Addr → Pt → Prop) : Prop :=
  ∀ (m : MethodId) (meth : Method) (c : Code) (A : Pt) (g : JFrame) (ig : Instr) (mk : MethodId) (a : Array Value),
    Stand p l e R s m sargs below meth c A.U A.locs A.cells A.slots → g.method = m → g.locals.size = c.maxLocals → decode c.code g.pc = .ok (ig, len) →
    2 * g.monitorRoom + (g.stack.map fun v => v.category).sum ≤ W9 → A.U.methodNamed? y = some mk → Pre A a →
    (∃ (v : Option Value) (B : Pt), Stand p l e R s m sargs below meth c B.U B.locs B.cells B.slots ∧ Post A a v B ∧
      Steps p.tables e below (doInvoke e (A.U.setTop g) [] mk a).1 (B.U.setTop { g with pc := g.pc + len, stack := v.toList ++ g.stack })) ∨
    (∃ (q : Addr) (B : Pt), Stand p l e R s m sargs below meth c B.U B.locs B.cells B.slots ∧ PostX A a q B ∧
      Steps p.tables e below (doInvoke e (A.U.setTop g) [] mk a).1 ((B.U.setTop g).pushFrame (.throwing q)))
section Payer
variable {l : Launch} {R : Room} {p : Program} {e : Env} {below : List Frame} {s : State} {sargs : Array Value} {y : MethodName} {len W9 : Nat}
theorem vx_back {ws : List Cond} {rm : Room} {Pc : Array Value → State → Prop} {Qc : Array Value → State → Outcome → State → Prop} {XC : String → State → State → Prop} {mc ms : Nat} {free : Addr → Prop} {bytes : ByteArray} {maxL : Nat} {ret : Option FieldType}
    (hM : vx_Met l y ws rm Pc Qc XC mc ms free) (hblind : FrameBlind Pc) (hrc : rm.cells = mc) (hrs : rm.slots = ms)
    (hframes : rm.frames + 1 ≤ R.frames) (hlocals : W9 + (maxL + 11) + rm.locals ≤ R.locals)
    (hws : ∀ w ∈ ws, ∀ a' U, s.WarmedH U.vm → w.before a' U = true) (hcode : Cond.code y bytes maxL ret ∈ ws) (hinit : ∀ a' U, s.WarmedH U.vm → (Cond.initialized y.cls).before a' U = true) :
    vx_Back l R p e below s sargs y len W9 (PreOf R mc ms Pc) (PostOf Qc mc ms free) (vx_Post XC mc ms free) := by
  intro m meth c A g ig mk a X hg hsize hdg hW hn hp
  have h1 : (headSpec ws rm).pre.before a A.U = true := atoms_intro fun w hw => hws w hw _ _ X.warmed
  have h2 : (Cond.code y bytes maxL ret).before a A.U = true := hws _ hcode _ _ X.warmed
  have h3 : (Cond.initialized y.cls).before a A.U = true := hinit _ _ X.warmed
  have h4 : A.cells + (headSpec ws rm).room.cells ≤ R.cells := by rw [show (headSpec ws rm).room.cells = mc from hrc]; exact hp.1
  have h5 : A.slots + (headSpec ws rm).room.slots ≤ R.slots := by rw [show (headSpec ws rm).room.slots = ms from hrs]; exact hp.2.1
  have hPc : Pc a (A.U.calling g mk a) := hblind _ _ _ _ hp.2.2
  obtain ⟨U, Ls, c0, s0⟩ := A
  dsimp only [Pt.U, Pt.locs, Pt.cells, Pt.slots] at h1 h2 h3 h4 h5 X hn hPc ⊢
  obtain ⟨methY, cY, hmY, hcY, -, hlY, -, -, -, -⟩ := Cond.code_spec hn h2
  obtain ⟨kY, hkY, -⟩ := className_of_methodNamed hn
  have hinitY : kY.init = .initialized := Cond.initialized_spec (findClass_of_methodNamed hn) hkY h3
  have h : At U g.method c below := by rw [hg]; exact X.here
  have hlocals9 : W9 + (maxL + 11) + (headSpec ws rm).room.locals ≤ R.locals := hlocals
  have happ : (headSpec ws rm).appliesLoose y e.platform (U.calling g mk a) = true :=
    Spec.appliesLoose_calling (g := g) h hdg hn hkY hinitY
      (X.room_calling (g := g) (R' := (headSpec ws rm).room) hsize hmY hcY hframes (by rw [hlY]; omega) h4 h5) h1
  obtain ⟨mid, hmid⟩ := h.above
  have hfr : (U.setTop g).frames = (.java g :: mid) ++ below := by rw [State.frames_setTop' g h.top, hmid]; rfl
  obtain ⟨o, s₂, hsteps, -, hend, hq⟩ := Steps.callFree hM p X.admits X.cas X.clock (acts := []) hfr happ hPc trivial
  have hq' : vx_Q Qc XC mc ms free a (U.calling g mk a) o s₂ := hq
  rw [State.frames_setTop' g h.top] at hend
  obtain ⟨g₀, hg0⟩ := Option.isSome_iff_exists.mp h.top
  obtain ⟨r, hr⟩ := State.topJava?_eq_some.mp hg0
  have hr' : (({ U with heap := s₂.heap, slotsUsed := s₂.slotsUsed } : State).setVm s₂.vm).frames = .java g₀ :: r := hr
  rcases hq' with ⟨hqc, L, hfe, hL⟩ | ⟨q, rfl, E, ce, L, hx, hce, hcv, hcl, hW₂, hsm, hL⟩
  · obtain ⟨⟨v, rfl⟩, hW₂, e2, q2, q3, q4, q5, q6⟩ := id hfe
    have e3 : s₂ = ({ (U.calling g mk a).setFrames s₂.frames with heap := s₂.heap, slotsUsed := s₂.slotsUsed } : State).setVm s₂.vm := by
      have : s₂ = ({ s₂ with vm := (U.calling g mk a).vm } : State).setVm s₂.vm := rfl
      rw [e2] at this
      exact this
    obtain ⟨c₂, i₂, len₂, hc₂, hd₂, hf₂⟩ := hend
    have hW' : U.WarmedH s₂.vm := hW₂
    have hcc : c₂ = c := by
      have h1 : s₂.code? g.method = U.code? g.method := by
        rw [State.code?_eq, State.code?_eq, hW'.alike.method?]
      exact Option.some.inj (hc₂.symm.trans (h1.trans h.code))
    subst hcc
    have hlen : len₂ = len := by rw [hdg] at hd₂; cases hd₂; rfl
    subst hlen
    have hs₂ : s₂ = (({ U with heap := s₂.heap, slotsUsed := s₂.slotsUsed } : State).setVm s₂.vm).setTop { g with pc := g.pc + len₂, stack := v.toList ++ g.stack } := by
      refine e3.trans ?_
      rw [hf₂, State.calling_eq h.top, State.setFrames_setFrames, State.setTop_of_frames _ hr', hr]
      rfl
    have hsame : U.sameButNew ({ U with heap := s₂.heap, slotsUsed := s₂.slotsUsed } : State) L mc ms := by
      refine ⟨?_, q2, q3, q4, q5, q6⟩
      obtain ⟨t, ht, -⟩ := State.frames_cons hr
      show ({ U with heap := s₂.heap, slotsUsed := s₂.slotsUsed } : State) = { U.setFrames U.frames with heap := s₂.heap, slotsUsed := s₂.slotsUsed }
      rw [State.setFrames_self ht]
    subst hg
    refine Or.inl ⟨v, ⟨(({ U with heap := s₂.heap, slotsUsed := s₂.slotsUsed } : State).setVm s₂.vm), Ls ++ L, c0 + mc, s0 + ms⟩,
      ⟨X.admits, X.cas, X.clock, X.frames, X.room, X.hears, X.method, X.code, (X.here.setHeapUsed s₂.heap s₂.slotsUsed).setVm hW'.alike, X.tail, State.WarmedH.trans X.warmed hW', X.limits, X.bytes, X.same.trans (hsame.setVm s.vm)⟩,
      ⟨g, mk, s₂, L, rfl, rfl, hqc, rfl, hL, rfl, rfl⟩, ?_⟩
    show Steps p.tables e below _ ((({ U with heap := s₂.heap, slotsUsed := s₂.slotsUsed } : State).setVm s₂.vm).setTop { g with pc := g.pc + len₂, stack := v.toList ++ g.stack })
    rw [← hs₂]
    exact hsteps
  · obtain ⟨e2, q2, q3, q4, q5, q6⟩ := id hsm
    have e3 : s₂ = ({ (U.calling g mk a).setFrames s₂.frames with heap := s₂.heap, slotsUsed := s₂.slotsUsed } : State).setVm s₂.vm := by
      have : s₂ = ({ s₂ with vm := (U.calling g mk a).vm } : State).setVm s₂.vm := rfl
      rw [e2] at this
      exact this
    have hf₂ : s₂.frames = .throwing q :: .java g :: U.frames.tail := hend
    have hW' : U.WarmedH s₂.vm := hW₂
    have hs₂ : s₂ = ((({ U with heap := s₂.heap, slotsUsed := s₂.slotsUsed } : State).setVm s₂.vm).setTop g).pushFrame (.throwing q) := by
      refine e3.trans ?_
      rw [hf₂, State.calling_eq h.top, State.setFrames_setFrames, State.pushFrame, State.frames_setTop _ hr', State.setTop_of_frames _ hr', State.setFrames_setFrames, hr]
      rfl
    have hsame : U.sameButNew ({ U with heap := s₂.heap, slotsUsed := s₂.slotsUsed } : State) L mc ms := by
      refine ⟨?_, q2, q3, q4, q5, q6⟩
      obtain ⟨t, ht, -⟩ := State.frames_cons hr
      show ({ U with heap := s₂.heap, slotsUsed := s₂.slotsUsed } : State) = { U.setFrames U.frames with heap := s₂.heap, slotsUsed := s₂.slotsUsed }
      rw [State.setFrames_self ht]
    subst hg
    refine Or.inr ⟨q, ⟨(({ U with heap := s₂.heap, slotsUsed := s₂.slotsUsed } : State).setVm s₂.vm), Ls ++ L, c0 + mc, s0 + ms⟩,
      ⟨X.admits, X.cas, X.clock, X.frames, X.room, X.hears, X.method, X.code, (X.here.setHeapUsed s₂.heap s₂.slotsUsed).setVm hW'.alike, X.tail, State.WarmedH.trans X.warmed hW', X.limits, X.bytes, X.same.trans (hsame.setVm s.vm)⟩,
      ⟨g, mk, s₂, L, E, ce, rfl, rfl, hx, hce, hcv, hcl, rfl, hL, rfl, rfl⟩, ?_⟩
    show Steps p.tables e below _ (((({ U with heap := s₂.heap, slotsUsed := s₂.slotsUsed } : State).setVm s₂.vm).setTop g).pushFrame (.throwing q))
    rw [← hs₂]
    exact hsteps
end Payer
section Calls
variable {p : Program} {l : Launch} {e : Env} {R : Room} {s : State} {m : MethodId} {args : Array Value} {below : List Frame} {meth : Method} {c : Code} {T : State} {locs : List Loc} {cells slots : Nat}
theorem vx_callV (X : Stand p l e R s m args below meth c T locs cells slots) (hexec : p.tables.exec = Jvm.exec) {own C : String} {index : Nat} {y : MethodName} {bytes : ByteArray} {maxL : Nat} {ret : Option FieldType}
    (hown : s.vm.findClass own = some m.cls) (hlink : (Cond.methodLink own index y).before args s = true) (hinst : (Cond.instanceMethod y).before args s = true) (hsel : (Cond.selects C y y).before args s = true)
    (hcode : (Cond.code y bytes maxL ret).before args s = true) (hy : y.cls ≠ "java/lang/invoke/MethodHandle" ∧ y.cls ≠ "java/lang/invoke/VarHandle")
    {W9 : Nat} {Pre : Pt → Array Value → Prop} {Post : Pt → Array Value → Option Value → Pt → Prop} {PostX : Pt → Array Value → Addr → Pt → Prop} (hK : vx_Back l R p e below s args y 3 W9 Pre Post PostX)
    {b : Addr} {cellB : Cell} (hcell : T.heap[b]? = some cellB) (hobj : cellB.vm.isStatics = false) (hcls : s.vm.findClass C = some cellB.cls)
    {g : JFrame} (hg : g.method = m) (hsize : g.locals.size = c.maxLocals) {argsL rest : List Value} (hlen : ∀ sig, parseMethodDescriptor y.desc = some sig → argsL.length = sig.parameters.length)
    (hstack : g.stack = argsL.reverse ++ .ref b :: rest) (hW : 2 * g.monitorRoom + (rest.map fun v => v.category).sum ≤ W9) (hdg : decode c.code g.pc = .ok (.invokevirtual index, 3))
    (hpre : ∀ vm₁, s.WarmedH vm₁ → Pre ⟨T.setVm vm₁, locs, cells, slots⟩ (Value.ref b :: argsL).toArray) :
    (∃ (v : Option Value) (vm₁ : Vm) (B : Pt), s.WarmedH vm₁ ∧ Stand p l e R s m args below meth c B.U B.locs B.cells B.slots ∧ Post ⟨T.setVm vm₁, locs, cells, slots⟩ (Value.ref b :: argsL).toArray v B ∧
      ∀ target, Steps p.tables e below (B.U.setTop { g with pc := g.pc + 3, stack := v.toList ++ rest }) target → Steps p.tables e below (T.setTop g) target) ∨
    (∃ (q : Addr) (vm₁ : Vm) (B : Pt), s.WarmedH vm₁ ∧ Stand p l e R s m args below meth c B.U B.locs B.cells B.slots ∧ PostX ⟨T.setVm vm₁, locs, cells, slots⟩ (Value.ref b :: argsL).toArray q B ∧
      Steps p.tables e below (T.setTop g) ((B.U.setTop { g with stack := rest }).pushFrame (.throwing q))) := by
  obtain ⟨mk, methM, hnamed, hmethM, hstM, habM⟩ := Cond.instanceMethod_spec hinst
  obtain ⟨methM', cM, hmethM', -, -, -, -, -, -, hsigM⟩ := Cond.code_spec hnamed hcode
  cases hmethM.symm.trans hmethM'
  obtain ⟨c2, r2, m2, q1, q2, q3, q4, kP, hkP, hkPi⟩ := Cond.selects_spec hsel
  cases hcls.symm.trans q1
  cases (State.methodFound?_of_named hnamed hy).symm.trans q2
  cases hnamed.symm.trans q3
  have hselP : selectMethod e.platform s.vm cellB.cls mk = .method mk := by rw [Launch.admits_selectMethod X.admits]; exact q4
  obtain ⟨vm₁, X₁, hstep₁⟩ := X.invokevirtual hexec hown hlink hnamed hmethM hstM hkP hkPi hy (a := b) (cell := cellB) hcell
    (fun z h => by rw [h] at hobj; cases hobj) hselP hmethM habM hkP hkPi (g := g) hg (argsL := argsL) (rest := rest) (hlen _ hsigM) hstack hdg
  rcases hK m meth c ⟨T.setVm vm₁, locs, cells, slots⟩ { g with stack := rest } (.invokevirtual index) mk (Value.ref b :: argsL).toArray X₁ hg hsize hdg hW (X₁.named hnamed) (hpre vm₁ X₁.warmed) with ⟨v, B, X', hpost, hsteps⟩ | ⟨q, B, X', hpost, hsteps⟩
  · exact Or.inl ⟨v, vm₁, B, X₁.warmed, X', hpost, fun target h => hstep₁ _ fun acts => by rw [doInvoke_state]; exact hsteps.trans h⟩
  · exact Or.inr ⟨q, vm₁, B, X₁.warmed, X', hpost, hstep₁ _ fun acts => by rw [doInvoke_state]; exact hsteps⟩
theorem vx_callS (X : Stand p l e R s m args below meth c T locs cells slots) (hexec : p.tables.exec = Jvm.exec) {own : String} {index : Nat} {y : MethodName} {bytes : ByteArray} {maxL : Nat} {ret : Option FieldType}
    (hown : s.vm.findClass own = some m.cls) (hlink : (Cond.methodLink own index y).before args s = true) (hstat : (Cond.static y).before args s = true) (hinit : (Cond.initialized y.cls).before args s = true)
    (hcode : (Cond.code y bytes maxL ret).before args s = true) (hy : y.cls ≠ "java/lang/invoke/MethodHandle" ∧ y.cls ≠ "java/lang/invoke/VarHandle")
    {W9 : Nat} {Pre : Pt → Array Value → Prop} {Post : Pt → Array Value → Option Value → Pt → Prop} {PostX : Pt → Array Value → Addr → Pt → Prop} (hK : vx_Back l R p e below s args y 3 W9 Pre Post PostX)
    {g : JFrame} (hg : g.method = m) (hsize : g.locals.size = c.maxLocals) {argsL rest : List Value} (hlen : ∀ sig, parseMethodDescriptor y.desc = some sig → argsL.length = sig.parameters.length)
    (hstack : g.stack = argsL.reverse ++ rest) (hW : 2 * g.monitorRoom + (rest.map fun v => v.category).sum ≤ W9) (hdg : decode c.code g.pc = .ok (.invokestatic index, 3))
    (hpre : ∀ vm₁, s.WarmedH vm₁ → Pre ⟨T.setVm vm₁, locs, cells, slots⟩ argsL.toArray) :
    (∃ (v : Option Value) (vm₁ : Vm) (B : Pt), s.WarmedH vm₁ ∧ Stand p l e R s m args below meth c B.U B.locs B.cells B.slots ∧ Post ⟨T.setVm vm₁, locs, cells, slots⟩ argsL.toArray v B ∧
      ∀ target, Steps p.tables e below (B.U.setTop { g with pc := g.pc + 3, stack := v.toList ++ rest }) target → Steps p.tables e below (T.setTop g) target) ∨
    (∃ (q : Addr) (vm₁ : Vm) (B : Pt), s.WarmedH vm₁ ∧ Stand p l e R s m args below meth c B.U B.locs B.cells B.slots ∧ PostX ⟨T.setVm vm₁, locs, cells, slots⟩ argsL.toArray q B ∧
      Steps p.tables e below (T.setTop g) ((B.U.setTop { g with stack := rest }).pushFrame (.throwing q))) := by
  obtain ⟨mk, hnamed⟩ := Cond.code_named hcode
  obtain ⟨methM, cM, hmethM, -, -, -, -, -, -, hsigM⟩ := Cond.code_spec hnamed hcode
  have hstatic : methM.isStatic = true := Cond.static_spec hnamed hmethM hstat
  obtain ⟨kP, hkP, -⟩ := className_of_methodNamed hnamed
  have hinitP : kP.init = .initialized := Cond.initialized_spec (findClass_of_methodNamed hnamed) hkP hinit
  obtain ⟨vm₁, X₁, hstep₁⟩ := X.invokestatic hexec hown hlink hnamed hmethM hstatic hkP hinitP hy (g := g) hg (argsL := argsL) (rest := rest) (hlen _ hsigM) hstack hdg
  rcases hK m meth c ⟨T.setVm vm₁, locs, cells, slots⟩ { g with stack := rest } (.invokestatic index) mk argsL.toArray X₁ hg hsize hdg hW (X₁.named hnamed) (hpre vm₁ X₁.warmed) with ⟨v, B, X', hpost, hsteps⟩ | ⟨q, B, X', hpost, hsteps⟩
  · exact Or.inl ⟨v, vm₁, B, X₁.warmed, X', hpost, fun target h => hstep₁ _ fun acts => by rw [doInvoke_state]; exact hsteps.trans h⟩
  · exact Or.inr ⟨q, vm₁, B, X₁.warmed, X', hpost, hstep₁ _ fun acts => by rw [doInvoke_state]; exact hsteps⟩
end Calls
theorem vx_cls {s : State} {T : State} {vm₁ : Vm} {E : String} {k : ClassId} (hW : s.WarmedH vm₁) (h : (T.setVm vm₁).vm.findClass E = some k) : s.vm.findClass E = some k := by
  have h1 : vm₁.findClass E = some k := h
  rw [hW.alike.findClass] at h1
  exact h1
/-- the method's frame g, with q thrown over it -/
def vx_W (p : Program) (l : Launch) (e : Env) (R : Room) (s : State) (m : MethodId) (args : Array Value) (below : List Frame) (meth : Method) (c : Code) (H : Heap) (locs : List Loc) (cells slots : Nat) (Q : State → Prop) (g : JFrame) (q : Addr) : Prop :=
  ∀ T : State, T.heap = H → Stand p l e R s m args below meth c T locs cells slots → ∃ t, Steps p.tables e below ((T.setTop g).pushFrame (.throwing q)) t ∧ Q t
def vx_Run (p : Program) (l : Launch) (e : Env) (R : Room) (s : State) (m : MethodId) (args : Array Value) (below : List Frame) (meth : Method) (c : Code) (H : Heap) (locs : List Loc) (cells slots mc ms : Nat) (g : JFrame) (rest : List Value) (Qa : State → Outcome → State → Prop) (XC : String → State → State → Prop) (free : Addr → Prop) : Prop :=
  ∀ T : State, T.heap = H → Stand p l e R s m args below meth c T locs cells slots →
    (∃ (v : Option Value) (st₀ t T' : State) (L : List Loc), st₀.heap = H ∧ Stand p l e R s m args below meth c T' (locs ++ L) (cells + mc) (slots + ms) ∧ (∀ q ∈ L, free q.base) ∧ T'.heap = t.heap ∧ T'.vm = t.vm ∧ Qa st₀ (.returned v) t ∧
      Goes p e below T g T' { g with pc := g.pc + 3, stack := v.toList ++ rest }) ∨
    (∃ (q : Addr) (st₀ t T' : State) (L : List Loc) (E : String) (ce : Cell), st₀.heap = H ∧ Stand p l e R s m args below meth c T' (locs ++ L) (cells + mc) (slots + ms) ∧ (∀ z ∈ L, free z.base) ∧ T'.heap = t.heap ∧ T'.vm = t.vm ∧ XC E st₀ t ∧ t.heap[q]? = some ce ∧ ce.vm = .none ∧ s.vm.findClass E = some ce.cls ∧
      Steps p.tables e below (T.setTop g) ((T'.setTop { g with stack := rest }).pushFrame (.throwing q)))
def vx_X {S : Type} (px : S → Prop) (B : String → S → State → Prop) (A : Nat → Prop) : String → State → State → Prop := fun E st t => ∃ u : S, px u ∧ B E u t ∧ va_F A st t
section Runs
variable {p : Program} {l : Launch} {e : Env} {R : Room} {s : State} {m : MethodId} {args : Array Value} {below : List Frame} {meth : Method} {c : Code} {H : Heap} {locs : List Loc} {cells slots : Nat}
variable {y : MethodName} {bytes cc : ByteArray} {maxL nL mc ms n index : Nat} {ret : Option FieldType} {ws : List Cond} {rm : Room} {Pc : Array Value → State → Prop} {Qc : Array Value → State → Outcome → State → Prop} {XC : String → State → State → Prop} {free : Addr → Prop} {Ts : List Cond} {own C : String} {b : Addr} {As rest : List Value} {g : JFrame}
theorem vx_callBack (cb : CallB R s args own index y bytes maxL ret ws rm mc ms n) (hM : vx_Met l y ws rm Pc Qc XC mc ms free) (hbl : FrameBlind Pc) : vx_Back l R p e below s args y 3 8 (PreOf R mc ms Pc) (PostOf Qc mc ms free) (vx_Post XC mc ms free) := by
  obtain ⟨hrc, hrs, hfr, hlo, hws, hcw, -, hini, -⟩ := cb
  exact vx_back (bytes := bytes) (maxL := maxL) (ret := ret) hM hbl hrc hrs hfr hlo hws hcw (fun a' U hW => word_at hW (Or.inl (by first | rfl | simp [Cond.onTables, Cond.keeps, Cond.steady])) hini)
theorem vx_runV (S : CallFix p m c cc nL s args Ts own) (hM : vx_Met l y ws rm Pc Qc XC mc ms free) (cw : CallW R s args own C index y bytes maxL ret ws rm mc ms n) (hp : PreV s H C b Pc As)
    (hg : g.method = m) (hn : As.length = n) (hsize : g.locals.size = nL) (hstack : g.stack = As.reverse ++ .ref b :: rest) (hW : 2 * g.monitorRoom + (rest.map fun v => v.category).sum ≤ 8) (hdg : decode cc g.pc = .ok (.invokevirtual index, 3)) (hf : cells + mc ≤ R.cells ∧ slots + ms ≤ R.slots) :
    vx_Run p l e R s m args below meth c H locs cells slots mc ms g rest (Qc (Value.ref b :: As).toArray) XC free := by
  have hK : vx_Back l R p e below s args y 3 8 (PreOf R mc ms Pc) (PostOf Qc mc ms free) (vx_Post XC mc ms free) := vx_callBack cw.1 hM hp.1
  obtain ⟨⟨-, -, -, -, -, -, hcode, -, hy, hlen, hl⟩, hin, hse⟩ := cw
  obtain ⟨hx, hb, hml, ho, -⟩ := S
  obtain ⟨-, ⟨cellB, hcB, hoB, hclB⟩, hPc⟩ := hp
  intro T hT X
  rcases vx_callV X hx (C := C) (bytes := bytes) (maxL := maxL) (ret := ret) ho hl hin hse hcode hy hK (by rw [hT]; exact hcB) hoB hclB hg (hsize.trans hml.symm) (argsL := As) (rest := rest) (fun sig h => hn.trans (hlen sig h)) hstack hW (by rw [hb]; exact hdg)
    (fun vm₁ hW₁ => ⟨hf.1, hf.2, hPc (T.setVm vm₁) hT hW₁⟩) with ⟨v, vm₁, ⟨U', l2, c2, s2⟩, hW₁, X', ⟨g', mk, t, L, e1, e2, hq, h1, hL, h2, h3⟩, st⟩ | ⟨q, vm₁, ⟨U', l2, c2, s2⟩, hW₁, X', ⟨g', mk, t, L, E, ce, e1, e2, hq, hce, hcv, hcl, h1, hL, h2, h3⟩, st⟩
  · dsimp only [Pt.U, Pt.locs, Pt.cells, Pt.slots] at X' e1 e2 h1 h2 h3 st
    subst h1; subst h2; subst h3
    exact Or.inl ⟨v, (T.setVm vm₁).calling g' mk (Value.ref b :: As).toArray, t, U', L, hT, X', hL, e1, e2, hq, st⟩
  · dsimp only [Pt.U, Pt.locs, Pt.cells, Pt.slots] at X' e1 e2 h1 h2 h3 st hcl
    subst h1; subst h2; subst h3
    exact Or.inr ⟨q, (T.setVm vm₁).calling g' mk (Value.ref b :: As).toArray, t, U', L, E, ce, hT, X', hL, e1, e2, hq, hce, hcv, vx_cls hW₁ hcl, st⟩
theorem vx_runS (S : CallFix p m c cc nL s args Ts own) (hM : vx_Met l y ws rm Pc Qc XC mc ms free) (cw : CallB R s args own index y bytes maxL ret ws rm mc ms n ∧ (Cond.static y).before args s = true) (hp : PreS s H Pc As)
    (hg : g.method = m) (hn : As.length = n) (hsize : g.locals.size = nL) (hstack : g.stack = As.reverse ++ rest) (hW : 2 * g.monitorRoom + (rest.map fun v => v.category).sum ≤ 8) (hdg : decode cc g.pc = .ok (.invokestatic index, 3)) (hf : cells + mc ≤ R.cells ∧ slots + ms ≤ R.slots) :
    vx_Run p l e R s m args below meth c H locs cells slots mc ms g rest (Qc As.toArray) XC free := by
  have hK : vx_Back l R p e below s args y 3 8 (PreOf R mc ms Pc) (PostOf Qc mc ms free) (vx_Post XC mc ms free) := vx_callBack cw.1 hM hp.1
  obtain ⟨⟨-, -, -, -, -, -, hcode, hini, hy, hlen, hl⟩, hstt⟩ := cw
  obtain ⟨hx, hb, hml, ho, -⟩ := S
  intro T hT X
  rcases vx_callS X hx (bytes := bytes) (maxL := maxL) (ret := ret) ho hl hstt hini hcode hy hK hg (hsize.trans hml.symm) (argsL := As) (rest := rest) (fun sig h => hn.trans (hlen sig h)) hstack hW (by rw [hb]; exact hdg)
    (fun vm₁ hW₁ => ⟨hf.1, hf.2, hp.2 (T.setVm vm₁) hT hW₁⟩) with ⟨v, vm₁, ⟨U', l2, c2, s2⟩, hW₁, X', ⟨g', mk, t, L, e1, e2, hq, h1, hL, h2, h3⟩, st⟩ | ⟨q, vm₁, ⟨U', l2, c2, s2⟩, hW₁, X', ⟨g', mk, t, L, E, ce, e1, e2, hq, hce, hcv, hcl, h1, hL, h2, h3⟩, st⟩
  · dsimp only [Pt.U, Pt.locs, Pt.cells, Pt.slots] at X' e1 e2 h1 h2 h3 st
    subst h1; subst h2; subst h3
    exact Or.inl ⟨v, (T.setVm vm₁).calling g' mk As.toArray, t, U', L, hT, X', hL, e1, e2, hq, st⟩
  · dsimp only [Pt.U, Pt.locs, Pt.cells, Pt.slots] at X' e1 e2 h1 h2 h3 st hcl
    subst h1; subst h2; subst h3
    exact Or.inr ⟨q, (T.setVm vm₁).calling g' mk As.toArray, t, U', L, E, ce, hT, X', hL, e1, e2, hq, hce, hcv, vx_cls hW₁ hcl, st⟩
end Runs
section Rows
variable {p : Program} {l : Launch} {e : Env} {R : Room} {s : State} {m : MethodId} {args : Array Value} {below : List Frame} {meth : Method} {c : Code} {H : Heap} {locs : List Loc} {cells slots : Nat} {Q : State → Prop}
variable {mc ms : Nat} {free : Addr → Prop} {A0 A1 : Nat → Prop} {H0 : Heap} {a : Array Value} {pc : Nat} {ls : Array Slot} {st0 rest : List Value}
theorem vx_keep {st₀ t T' : State} {L : List Loc} (h0 : st₀.heap = H) (e1 : T'.heap = t.heap) (hS : va_S A0 H0 H locs) (hA : ∀ q, q < H.size → A1 q → A0 q) (hf : ∀ q, free q → A0 q) (hL : ∀ q ∈ L, free q.base) (hF : va_F A1 st₀ t) :
    H.size ≤ T'.heap.size ∧ (∀ q : Nat, q < H.size → ¬ A1 q → T'.heap[q]? = H[q]?) ∧ va_S A0 H0 T'.heap (locs ++ L) := by
  obtain ⟨hz, hk⟩ := hF
  rw [h0] at hz hk
  exact ⟨by rw [e1]; exact hz, fun q h1 h2 => by rw [e1]; exact hk q h1 h2,
    ⟨Nat.le_trans hS.1 (by rw [e1]; exact hz), fun q h1 h2 => by rw [e1, hk q (Nat.lt_of_lt_of_le h1 hS.1) (fun z => h2 (hA q (Nat.lt_of_lt_of_le h1 hS.1) z))]; exact hS.2.1 q h1 h2, fun q hq => by
      rcases List.mem_append.mp hq with h | h
      · exact hS.2.2 q h
      · exact hf _ (hL q h)⟩⟩
theorem vx_calli {S SX : Type} {post : Int32 → S → Prop} {px : SX → Prop} {B : S → State → Prop} {BX : String → SX → State → Prop} {AX : Nat → Prop} (hr : vx_Run p l e R s m args below meth c H locs cells slots mc ms (F0 m pc ls st0) rest (va_Qi post B A1 a) (vx_X px BX AX) free) (hS : va_S A0 H0 H locs) (hA : ∀ q, q < H.size → A1 q → A0 q) (hf : ∀ q, free q → A0 q) (hAX : ∀ q, q < H.size → AX q → A0 q)
    (kx : ∀ (E : String) (ce : Cell) (q9 : Addr) (u : SX) (t : State) (H1 : Heap) (locs1 : List Loc), t.heap = H1 → s.vm.Alike t.vm → px u → BX E u t → H.size ≤ H1.size → (∀ q : Nat, q < H.size → ¬ AX q → H1[q]? = H[q]?) → va_S A0 H0 H1 locs1 → H1[q9]? = some ce → ce.vm = .none → s.vm.findClass E = some ce.cls → vx_W p l e R s m args below meth c H1 locs1 (cells + mc) (slots + ms) Q (F0 m pc ls rest) q9)
    (kk : ∀ (r : Int32) (u : S) (t : State) (H1 : Heap) (locs1 : List Loc), t.heap = H1 → s.vm.Alike t.vm → post r u → B u t → H.size ≤ H1.size → (∀ q : Nat, q < H.size → ¬ A1 q → H1[q]? = H[q]?) → va_S A0 H0 H1 locs1 → W p l e R s m args below meth c H1 locs1 (cells + mc) (slots + ms) Q (F0 m (pc + 3) ls (.int r :: rest))) : W p l e R s m args below meth c H locs cells slots Q (F0 m pc ls st0) := by
  intro T hT X
  rcases hr T hT X with ⟨v, st₀, t, T', L, h0, X', hL, e1, e2, ⟨⟨r, u, hv, hp, hb⟩, hF⟩, st⟩ | ⟨q, st₀, t, T', L, E, ce, h0, X', hL, e1, e2, ⟨u, hp, hb, hF⟩, hce, hcv, hcl, st⟩
  · cases hv
    obtain ⟨k1, k2, k3⟩ := vx_keep h0 e1 hS hA hf hL hF
    obtain ⟨t2, a1, b1⟩ := kk r u t T'.heap (locs ++ L) e1.symm (by rw [← e2]; exact X'.warmed.alike) hp hb k1 k2 k3 T' rfl X'
    exact ⟨t2, st t2 a1, b1⟩
  · obtain ⟨k1, k2, k3⟩ := vx_keep h0 e1 hS hAX hf hL hF
    obtain ⟨t2, a1, b1⟩ := kx E ce q u t T'.heap (locs ++ L) e1.symm (by rw [← e2]; exact X'.warmed.alike) hp hb k1 k2 k3 (by rw [e1]; exact hce) hcv hcl T' rfl X'
    exact ⟨t2, st.trans a1, b1⟩
theorem vx_calll {S SX : Type} {post : Int64 → S → Prop} {px : SX → Prop} {B : S → State → Prop} {BX : String → SX → State → Prop} {AX : Nat → Prop} (hr : vx_Run p l e R s m args below meth c H locs cells slots mc ms (F0 m pc ls st0) rest (va_Ql post B A1 a) (vx_X px BX AX) free) (hS : va_S A0 H0 H locs) (hA : ∀ q, q < H.size → A1 q → A0 q) (hf : ∀ q, free q → A0 q) (hAX : ∀ q, q < H.size → AX q → A0 q)
    (kx : ∀ (E : String) (ce : Cell) (q9 : Addr) (u : SX) (t : State) (H1 : Heap) (locs1 : List Loc), t.heap = H1 → s.vm.Alike t.vm → px u → BX E u t → H.size ≤ H1.size → (∀ q : Nat, q < H.size → ¬ AX q → H1[q]? = H[q]?) → va_S A0 H0 H1 locs1 → H1[q9]? = some ce → ce.vm = .none → s.vm.findClass E = some ce.cls → vx_W p l e R s m args below meth c H1 locs1 (cells + mc) (slots + ms) Q (F0 m pc ls rest) q9)
    (kk : ∀ (r : Int64) (u : S) (t : State) (H1 : Heap) (locs1 : List Loc), t.heap = H1 → s.vm.Alike t.vm → post r u → B u t → H.size ≤ H1.size → (∀ q : Nat, q < H.size → ¬ A1 q → H1[q]? = H[q]?) → va_S A0 H0 H1 locs1 → W p l e R s m args below meth c H1 locs1 (cells + mc) (slots + ms) Q (F0 m (pc + 3) ls (.long r :: rest))) : W p l e R s m args below meth c H locs cells slots Q (F0 m pc ls st0) := by
  intro T hT X
  rcases hr T hT X with ⟨v, st₀, t, T', L, h0, X', hL, e1, e2, ⟨⟨r, u, hv, hp, hb⟩, hF⟩, st⟩ | ⟨q, st₀, t, T', L, E, ce, h0, X', hL, e1, e2, ⟨u, hp, hb, hF⟩, hce, hcv, hcl, st⟩
  · cases hv
    obtain ⟨k1, k2, k3⟩ := vx_keep h0 e1 hS hA hf hL hF
    obtain ⟨t2, a1, b1⟩ := kk r u t T'.heap (locs ++ L) e1.symm (by rw [← e2]; exact X'.warmed.alike) hp hb k1 k2 k3 T' rfl X'
    exact ⟨t2, st t2 a1, b1⟩
  · obtain ⟨k1, k2, k3⟩ := vx_keep h0 e1 hS hAX hf hL hF
    obtain ⟨t2, a1, b1⟩ := kx E ce q u t T'.heap (locs ++ L) e1.symm (by rw [← e2]; exact X'.warmed.alike) hp hb k1 k2 k3 (by rw [e1]; exact hce) hcv hcl T' rfl X'
    exact ⟨t2, st.trans a1, b1⟩
theorem vx_callf {S SX : Type} {post : UInt32 → S → Prop} {px : SX → Prop} {B : S → State → Prop} {BX : String → SX → State → Prop} {AX : Nat → Prop} (hr : vx_Run p l e R s m args below meth c H locs cells slots mc ms (F0 m pc ls st0) rest (va_Qf post B A1 a) (vx_X px BX AX) free) (hS : va_S A0 H0 H locs) (hA : ∀ q, q < H.size → A1 q → A0 q) (hf : ∀ q, free q → A0 q) (hAX : ∀ q, q < H.size → AX q → A0 q)
    (kx : ∀ (E : String) (ce : Cell) (q9 : Addr) (u : SX) (t : State) (H1 : Heap) (locs1 : List Loc), t.heap = H1 → s.vm.Alike t.vm → px u → BX E u t → H.size ≤ H1.size → (∀ q : Nat, q < H.size → ¬ AX q → H1[q]? = H[q]?) → va_S A0 H0 H1 locs1 → H1[q9]? = some ce → ce.vm = .none → s.vm.findClass E = some ce.cls → vx_W p l e R s m args below meth c H1 locs1 (cells + mc) (slots + ms) Q (F0 m pc ls rest) q9)
    (kk : ∀ (r : UInt32) (u : S) (t : State) (H1 : Heap) (locs1 : List Loc), t.heap = H1 → s.vm.Alike t.vm → post r u → B u t → H.size ≤ H1.size → (∀ q : Nat, q < H.size → ¬ A1 q → H1[q]? = H[q]?) → va_S A0 H0 H1 locs1 → W p l e R s m args below meth c H1 locs1 (cells + mc) (slots + ms) Q (F0 m (pc + 3) ls (.float r :: rest))) : W p l e R s m args below meth c H locs cells slots Q (F0 m pc ls st0) := by
  intro T hT X
  rcases hr T hT X with ⟨v, st₀, t, T', L, h0, X', hL, e1, e2, ⟨⟨r, u, hv, hp, hb⟩, hF⟩, st⟩ | ⟨q, st₀, t, T', L, E, ce, h0, X', hL, e1, e2, ⟨u, hp, hb, hF⟩, hce, hcv, hcl, st⟩
  · cases hv
    obtain ⟨k1, k2, k3⟩ := vx_keep h0 e1 hS hA hf hL hF
    obtain ⟨t2, a1, b1⟩ := kk r u t T'.heap (locs ++ L) e1.symm (by rw [← e2]; exact X'.warmed.alike) hp hb k1 k2 k3 T' rfl X'
    exact ⟨t2, st t2 a1, b1⟩
  · obtain ⟨k1, k2, k3⟩ := vx_keep h0 e1 hS hAX hf hL hF
    obtain ⟨t2, a1, b1⟩ := kx E ce q u t T'.heap (locs ++ L) e1.symm (by rw [← e2]; exact X'.warmed.alike) hp hb k1 k2 k3 (by rw [e1]; exact hce) hcv hcl T' rfl X'
    exact ⟨t2, st.trans a1, b1⟩
theorem vx_calld {S SX : Type} {post : UInt64 → S → Prop} {px : SX → Prop} {B : S → State → Prop} {BX : String → SX → State → Prop} {AX : Nat → Prop} (hr : vx_Run p l e R s m args below meth c H locs cells slots mc ms (F0 m pc ls st0) rest (va_Qd post B A1 a) (vx_X px BX AX) free) (hS : va_S A0 H0 H locs) (hA : ∀ q, q < H.size → A1 q → A0 q) (hf : ∀ q, free q → A0 q) (hAX : ∀ q, q < H.size → AX q → A0 q)
    (kx : ∀ (E : String) (ce : Cell) (q9 : Addr) (u : SX) (t : State) (H1 : Heap) (locs1 : List Loc), t.heap = H1 → s.vm.Alike t.vm → px u → BX E u t → H.size ≤ H1.size → (∀ q : Nat, q < H.size → ¬ AX q → H1[q]? = H[q]?) → va_S A0 H0 H1 locs1 → H1[q9]? = some ce → ce.vm = .none → s.vm.findClass E = some ce.cls → vx_W p l e R s m args below meth c H1 locs1 (cells + mc) (slots + ms) Q (F0 m pc ls rest) q9)
    (kk : ∀ (r : UInt64) (u : S) (t : State) (H1 : Heap) (locs1 : List Loc), t.heap = H1 → s.vm.Alike t.vm → post r u → B u t → H.size ≤ H1.size → (∀ q : Nat, q < H.size → ¬ A1 q → H1[q]? = H[q]?) → va_S A0 H0 H1 locs1 → W p l e R s m args below meth c H1 locs1 (cells + mc) (slots + ms) Q (F0 m (pc + 3) ls (.double r :: rest))) : W p l e R s m args below meth c H locs cells slots Q (F0 m pc ls st0) := by
  intro T hT X
  rcases hr T hT X with ⟨v, st₀, t, T', L, h0, X', hL, e1, e2, ⟨⟨r, u, hv, hp, hb⟩, hF⟩, st⟩ | ⟨q, st₀, t, T', L, E, ce, h0, X', hL, e1, e2, ⟨u, hp, hb, hF⟩, hce, hcv, hcl, st⟩
  · cases hv
    obtain ⟨k1, k2, k3⟩ := vx_keep h0 e1 hS hA hf hL hF
    obtain ⟨t2, a1, b1⟩ := kk r u t T'.heap (locs ++ L) e1.symm (by rw [← e2]; exact X'.warmed.alike) hp hb k1 k2 k3 T' rfl X'
    exact ⟨t2, st t2 a1, b1⟩
  · obtain ⟨k1, k2, k3⟩ := vx_keep h0 e1 hS hAX hf hL hF
    obtain ⟨t2, a1, b1⟩ := kx E ce q u t T'.heap (locs ++ L) e1.symm (by rw [← e2]; exact X'.warmed.alike) hp hb k1 k2 k3 (by rw [e1]; exact hce) hcv hcl T' rfl X'
    exact ⟨t2, st.trans a1, b1⟩
theorem vx_callv {S SX : Type} {post : S → Prop} {px : SX → Prop} {B : S → State → Prop} {BX : String → SX → State → Prop} {AX : Nat → Prop} (hr : vx_Run p l e R s m args below meth c H locs cells slots mc ms (F0 m pc ls st0) rest (va_Qv post B A1 a) (vx_X px BX AX) free) (hS : va_S A0 H0 H locs) (hA : ∀ q, q < H.size → A1 q → A0 q) (hf : ∀ q, free q → A0 q) (hAX : ∀ q, q < H.size → AX q → A0 q)
    (kx : ∀ (E : String) (ce : Cell) (q9 : Addr) (u : SX) (t : State) (H1 : Heap) (locs1 : List Loc), t.heap = H1 → s.vm.Alike t.vm → px u → BX E u t → H.size ≤ H1.size → (∀ q : Nat, q < H.size → ¬ AX q → H1[q]? = H[q]?) → va_S A0 H0 H1 locs1 → H1[q9]? = some ce → ce.vm = .none → s.vm.findClass E = some ce.cls → vx_W p l e R s m args below meth c H1 locs1 (cells + mc) (slots + ms) Q (F0 m pc ls rest) q9)
    (kk : ∀ (u : S) (t : State) (H1 : Heap) (locs1 : List Loc), t.heap = H1 → s.vm.Alike t.vm → post u → B u t → H.size ≤ H1.size → (∀ q : Nat, q < H.size → ¬ A1 q → H1[q]? = H[q]?) → va_S A0 H0 H1 locs1 → W p l e R s m args below meth c H1 locs1 (cells + mc) (slots + ms) Q (F0 m (pc + 3) ls (rest))) : W p l e R s m args below meth c H locs cells slots Q (F0 m pc ls st0) := by
  intro T hT X
  rcases hr T hT X with ⟨v, st₀, t, T', L, h0, X', hL, e1, e2, ⟨⟨u, hv, hp, hb⟩, hF⟩, st⟩ | ⟨q, st₀, t, T', L, E, ce, h0, X', hL, e1, e2, ⟨u, hp, hb, hF⟩, hce, hcv, hcl, st⟩
  · cases hv
    obtain ⟨k1, k2, k3⟩ := vx_keep h0 e1 hS hA hf hL hF
    obtain ⟨t2, a1, b1⟩ := kk u t T'.heap (locs ++ L) e1.symm (by rw [← e2]; exact X'.warmed.alike) hp hb k1 k2 k3 T' rfl X'
    exact ⟨t2, st t2 a1, b1⟩
  · obtain ⟨k1, k2, k3⟩ := vx_keep h0 e1 hS hAX hf hL hF
    obtain ⟨t2, a1, b1⟩ := kx E ce q u t T'.heap (locs ++ L) e1.symm (by rw [← e2]; exact X'.warmed.alike) hp hb k1 k2 k3 (by rw [e1]; exact hce) hcv hcl T' rfl X'
    exact ⟨t2, st.trans a1, b1⟩
/-- caught by the row x of this method's table; the rows ahead don't take it -/
theorem vx_catch {own name : String} {E : String} {ce : Cell} {q : Addr} (hown : s.vm.findClass own = some m.cls) (pre : List ExceptionTableEntry) (x : ExceptionTableEntry) (suf : List ExceptionTableEntry) (hsplit : c.exceptionTable.toList = pre ++ x :: suf)
    (hpass : ∀ z ∈ pre, covers z pc = false ∨ (z.catchType ≠ 0 ∧ ∃ nm : String, (Cond.classLink own z.catchType nm).before args s = true ∧ va_Nc E nm s)) (hx : covers x pc = true) (h0 : x.catchType ≠ 0)
    (hlink : (Cond.classLink own x.catchType name).before args s = true) (hcast : (Cond.castable E name).before args s = true) (hcell : H[q]? = some ce) (hv : ce.vm = .none) (hcl : s.vm.findClass E = some ce.cls)
    (kk : W p l e R s m args below meth c H locs cells slots Q (F0 m x.handlerPc ls [.ref q])) : vx_W p l e R s m args below meth c H locs cells slots Q (F0 m pc ls rest) q := by
  intro T hT X
  have hpl : e.platform.magicAccessors = ({} : Platform).magicAccessors := by rw [X.admits.platform]
  obtain ⟨c3, c4, hc3, hc4, hasg⟩ := Cond.castable_spec hcast
  cases Option.some.inj (hc3.symm.trans hcl)
  obtain ⟨c5, hc5, hcl5⟩ := Cond.classLink_spec hown hlink e.platform hpl
  cases Option.some.inj (hc4.symm.trans hc5)
  obtain ⟨vm', X', st⟩ := X.thenCaughtThrough q (g := F0 m pc ls rest) rfl (Steps.refl _) (by rw [hT]; exact hcell) (by rw [hv]; rfl) (by obtain ⟨k9, h9, -⟩ := Vm.findClass_spec hcl; exact ⟨k9, h9⟩) pre x suf hsplit
    (fun z hz => by
      rcases hpass z hz with h | ⟨hz0, nm, hl1, hn1⟩
      · exact Or.inl h
      · obtain ⟨c6, hc6, hcl6⟩ := Cond.classLink_spec hown hl1 e.platform hpl
        obtain ⟨a8, b8, h1, h2, h3⟩ := hn1
        cases Option.some.inj (h1.symm.trans hcl)
        cases Option.some.inj (h2.symm.trans hc6)
        exact Or.inr ⟨hz0, _, hcl6, h3⟩) hx (Or.inr ⟨h0, c4, hcl5, hasg⟩)
  obtain ⟨t, a1, b1⟩ := kk (T.setVm vm') hT X'
  exact ⟨t, st.trans a1, b1⟩
end Rows
section Ends
variable {p : Program} {l : Launch} {e : Env} {R : Room} {s : State} {m : MethodId} {args : Array Value} {below : List Frame} {meth : Method} {c : Code} {H : Heap} {locs : List Loc} {cells slots : Nat} {Q : State → Prop}
variable {mc ms : Nat} {free : Addr → Prop} {A0 A1 : Nat → Prop} {H0 : Heap} {a : Array Value} {ls : Array Slot} {st0 rest : List Value}
variable {Qc : Array Value → State → Outcome → State → Prop} {XC : String → State → State → Prop}
/-- what a body that may throw owes at its end -/
def vx_MQ (below : List Frame) (Qc : Array Value → State → Outcome → State → Prop) (XC : String → State → State → Prop) (a : Array Value) (s : State) (mc ms : Nat) (free : Addr → Prop) : State → Prop := fun t =>
  ∃ o, t.status = .running ∧ Ended t below o ∧ vx_Q Qc XC mc ms free a s o t
theorem vx_ret {g : JFrame} {mc ms : Nat} (k : W p l e R s m args below meth c H locs cells slots (MQ below Qc args s mc ms free) g) : W p l e R s m args below meth c H locs cells slots (vx_MQ below Qc XC args s mc ms free) g := by
  intro T hT X
  obtain ⟨t, a1, o, b1, b2, b3, b4⟩ := k T hT X
  exact ⟨t, a1, o, b1, b2, Or.inl ⟨b3, b4⟩⟩
/-- not caught here: it goes on to the caller -/
theorem vx_widen {g : JFrame} {q : Addr} {k n : Nat} (h1 : cells ≤ k) (h2 : slots ≤ n) (kk : vx_W p l e R s m args below meth c H locs k n Q g q) : vx_W p l e R s m args below meth c H locs cells slots Q g q := fun T hT X => kk T hT (stand_widen X h1 h2)
theorem vx_out {pc : Nat} {E : String} {ce : Cell} {q : Addr} {mc ms : Nat} (hout : ∀ x ∈ c.exceptionTable.toList, covers x pc = false) (hlocks : meth.locks = false) (hcell : H[q]? = some ce) (hv : ce.vm = .none) (hcl : s.vm.findClass E = some ce.cls)
    (hx : ∀ t : State, t.heap = H → s.vm.Alike t.vm → XC E s t) (hf : ∀ z ∈ locs, free z.base) (hc : cells ≤ mc) (hs : slots ≤ ms) :
    vx_W p l e R s m args below meth c H locs cells slots (vx_MQ below Qc XC args s mc ms free) (F0 m pc ls rest) q := by
  intro T hT X
  obtain ⟨st1, hrun, hend, hW, hsm⟩ := X.leaveThrown q (g := F0 m pc ls rest) rfl rfl rfl hout hlocks
  have hcell9 : (T.setFrames (.throwing q :: below)).heap[q]? = some ce := by
    show T.heap[q]? = some ce
    rw [hT]; exact hcell
  exact ⟨_, st1, .threw q, hrun, hend, Or.inr ⟨q, rfl, E, ce, locs, hx _ hT hW.alike, hcell9, hv, hcl, hW, hsm.mono hc hs, hf⟩⟩
theorem vx_frame {U : State} {k n : Nat} (h : s.sameButNew ({ U with vm := s.vm } : State) locs k n) : s.heap.size ≤ U.heap.size ∧ ∀ q : Nat, q < s.heap.size → (∀ z ∈ locs, z.base ≠ q) → U.heap[q]? = s.heap[q]? := by
  obtain ⟨-, h2, -, -, -, h6⟩ := h
  refine ⟨h2, fun q hq hz => ?_⟩
  obtain ⟨c9, e1, e2, e3, e4⟩ := h6 q _ (Array.getElem?_eq_getElem hq)
  have hs : c9.slots = (s.heap[q]).slots := Array.ext_getElem? fun i => e4 i fun hm => hz _ hm rfl
  have h9 : c9 = s.heap[q] := by
    rw [hs] at e2
    exact e2
  have e5 : U.heap[q]? = some c9 := e1
  rw [e5, h9, Array.getElem?_eq_getElem hq]
/-- the words of a throw but the four that speak of the heap -/
def vx_no (w : Cond) : Bool := decide (w ≠ .isRef (.static Bundle.tN "UNASSIGNED_STACK" Bundle.steD)) && decide (w ≠ .isRef (.static Bundle.tN "SUPPRESSED_SENTINEL" Bundle.listD)) && decide (w ≠ .laysStatic Bundle.tN "UNASSIGNED_STACK" Bundle.steD) && decide (w ≠ .laysStatic Bundle.tN "SUPPRESSED_SENTINEL" Bundle.listD)
def vx_at0 (own : String) (ic : Nat) (X : String) (names : List String) : List Cond := (Bundle.ownAtoms0 own ic X names).filter vx_no
def vx_atS (own : String) (ic : Nat) (X : String) (names : List String) : List Cond := (Bundle.ownAtoms own ic X names).filter vx_no
/-- a word that the tables alone decide, or a good one -/
def vx_ot (w : Cond) : Bool := w.onTables || goodWord w
theorem vx_ot_at {args a' : Array Value} {s U : State} {w : Cond} (hW : s.WarmedH U.vm) (hvm : s.vm = U.vm) (hg : vx_ot w = true) (h : w.before args s = true) : w.before a' U = true := by
  simp only [vx_ot, Bool.or_eq_true] at hg
  rcases hg with hg | hg
  · exact va_tabs hg hvm h
  · exact word_at hW (good_of_word hg) h
/-- a list's words: the good ones out of the method's own list, the others by premises of their own -/
theorem vx_hat {args : Array Value} {s : State} {L B : List Cond} (h1 : ∀ w ∈ L.filter goodWord, w.before args s = true) (h2 : ∀ w ∈ L.filter (fun w => !goodWord w), w ∈ B) (h3 : ∀ w ∈ B, w.before args s = true) : ∀ w ∈ L, w.before args s = true := by
  intro w hw
  by_cases g : goodWord w = true
  · exact h1 w (List.mem_filter.mpr ⟨hw, g⟩)
  · refine h3 w (h2 w (List.mem_filter.mpr ⟨hw, ?_⟩))
    show (!goodWord w) = true
    cases hgw : goodWord w
    · rfl
    · exact absurd hgw g
theorem vx_c {args : Array Value} {s : State} {w : Cond} {B : List Cond} (h : w.before args s = true) (t : ∀ w ∈ B, w.before args s = true) : ∀ w' ∈ w :: B, w'.before args s = true := fun w' h' => (List.mem_cons.mp h').elim (fun e => by rw [e]; exact h) (t w')
theorem vx_n {args : Array Value} {s : State} : ∀ w ∈ ([] : List Cond), w.before args s = true := fun _ h => nomatch h
theorem vx_own {args : Array Value} {s : State} {L : List Cond} (h1 : ∀ w ∈ L.filter vx_no, w.before args s = true)
    (hU : (Cond.isRef (.static Bundle.tN "UNASSIGNED_STACK" Bundle.steD)).before args s = true) (hN : (Cond.isRef (.static Bundle.tN "SUPPRESSED_SENTINEL" Bundle.listD)).before args s = true)
    (lU : (Cond.laysStatic Bundle.tN "UNASSIGNED_STACK" Bundle.steD).before args s = true) (lN : (Cond.laysStatic Bundle.tN "SUPPRESSED_SENTINEL" Bundle.listD).before args s = true) : ∀ w ∈ L, w.before args s = true := by
  intro w hw
  by_cases e1 : w = .isRef (.static Bundle.tN "UNASSIGNED_STACK" Bundle.steD)
  · rw [e1]; exact hU
  · by_cases e2 : w = .isRef (.static Bundle.tN "SUPPRESSED_SENTINEL" Bundle.listD)
    · rw [e2]; exact hN
    · by_cases e3 : w = .laysStatic Bundle.tN "UNASSIGNED_STACK" Bundle.steD
      · rw [e3]; exact lU
      · by_cases e4 : w = .laysStatic Bundle.tN "SUPPRESSED_SENTINEL" Bundle.listD
        · rw [e4]; exact lN
        · exact h1 w (List.mem_filter.mpr ⟨hw, by unfold vx_no; rw [decide_eq_true e1, decide_eq_true e2, decide_eq_true e3, decide_eq_true e4]; rfl⟩)
/-- where a static field lies, its class's statics cell in H -/
def vx_L (C n d : String) (A : Nat → Prop) (U : State) (H : Heap) : Prop := ∃ (c : ClassId) (k : Class) (i : Nat) (f : Field) (a : Nat) (cell : Cell), U.vm.findClass C = some c ∧ U.fieldFound? C n d = some (c, k, i, f) ∧ f.isStatic = true ∧ k.statics = some a ∧ H[a]? = some cell ∧ cell.vm.isStatics = true ∧ cell.cls = c ∧ f.slot < cell.slots.size ∧ k.staticTypes[f.slot]? = some f.type ∧ ¬ A a
theorem vx_L.moved {C n d : String} {A : Nat → Prop} {u U : State} {H : Heap} (hvm : u.vm.Alike U.vm) (h : vx_L C n d A u H) : vx_L C n d A U H := by
  obtain ⟨c, k, i, f, a, cell, h1, h2, h3, h4, h5, h6, h7, h8, h9, h10⟩ := h
  obtain ⟨k', hi', he⟩ := State.fieldFound?_setVm hvm h2
  exact ⟨c, k', i, f, a, cell, by rw [hvm.findClass]; exact h1, hi', h3, by rw [he]; exact h4, h5, h6, h7, h8, by rw [he]; exact h9, h10⟩
theorem vx_L.kept {C n d : String} {A : Nat → Prop} {U : State} {H H1 : Heap} (h : vx_L C n d A U H) (hq : ∀ a : Nat, a < H.size → ¬ A a → H1[a]? = H[a]?) : vx_L C n d A U H1 := by
  obtain ⟨c, k, i, f, a, cell, h1, h2, h3, h4, h5, h6, h7, h8, h9, h10⟩ := h
  exact ⟨c, k, i, f, a, cell, h1, h2, h3, h4, by rw [hq a (Array.getElem?_eq_some_iff.mp h5).1 h10]; exact h5, h6, h7, h8, h9, h10⟩
theorem vx_L.narrow {C n d : String} {A B : Nat → Prop} {U : State} {H : Heap} (h : vx_L C n d A U H) (hAB : ∀ q, B q → A q) : vx_L C n d B U H := by
  obtain ⟨c, k, i, f, a, cell, h1, h2, h3, h4, h5, h6, h7, h8, h9, h10⟩ := h
  exact ⟨c, k, i, f, a, cell, h1, h2, h3, h4, h5, h6, h7, h8, h9, fun z => h10 (hAB _ z)⟩
theorem vx_L.word {C n d : String} {A : Nat → Prop} {s : State} {args : Array Value} (h : vx_L C n d A s s.heap) : (Cond.laysStatic C n d).before args s = true := by
  obtain ⟨c, k, i, f, a, cell, h1, h2, h3, h4, h5, h6, h7, h8, h9, -⟩ := h
  show (Cond.laysStatic C n d).holds args s none s [] = true
  exact Cond.laysStatic_of h1 h2 h3 h4 h5 h6 h7 h8 h9
/-- .. and what it holds: null or some reference -/
def vx_Zq (C n d : String) (A : Nat → Prop) (U : State) (H : Heap) : Prop := va_Zq C n d A U H ∧ vx_L C n d A U H
theorem vx_Zq.moved {C n d : String} {A : Nat → Prop} {u U : State} {H : Heap} (hvm : u.vm.Alike U.vm) (h : vx_Zq C n d A u H) : vx_Zq C n d A U H := ⟨va_Zq.moved hvm h.1, vx_L.moved hvm h.2⟩
theorem vx_Zq.kept {C n d : String} {A : Nat → Prop} {U : State} {H H1 : Heap} (h : vx_Zq C n d A U H) (hq : ∀ a : Nat, a < H.size → ¬ A a → H1[a]? = H[a]?) : vx_Zq C n d A U H1 := ⟨va_Zq.kept h.1 hq, vx_L.kept h.2 hq⟩
theorem vx_Zq.narrow {C n d : String} {A B : Nat → Prop} {U : State} {H : Heap} (h : vx_Zq C n d A U H) (hAB : ∀ q, B q → A q) : vx_Zq C n d B U H := ⟨va_Zq.narrow h.1 hAB, vx_L.narrow h.2 hAB⟩
theorem vx_Zqof {args : Array Value} {s : State} {C n d : String} {A : Nat → Prop} (hl : (Cond.laysStatic C n d).before args s = true) (hini : (Cond.initialized C).before args s = true) (h : (Cond.isRef (.static C n d)).before args s = true) (hA : ∀ a : Nat, a < s.heap.size → ¬ A a) : vx_Zq C n d A s s.heap := by
  refine ⟨va_Zqof hl hini h hA, ?_⟩
  obtain ⟨c, k, i, f, a, cell, h1, h2, h3, h4, h5, h6, h7, h8, h9⟩ := Cond.laysStatic_spec hl
  exact ⟨c, k, i, f, a, cell, h1, h2, h3, h4, h5, h6, h7, h8, h9, hA a (Array.getElem?_eq_some_iff.mp h5).1⟩
theorem vx_isRef {C n d : String} {v : Value} {A : Nat → Prop} {s : State} {args : Array Value} (h : va_Z C n d v A s s.heap) (hv : v.isRef = true) : (Cond.isRef (.static C n d)).before args s = true := by
  obtain ⟨cf, kf, fi, f, a, cell, h1, h2, h3, h4, h5, h6, h7, -⟩ := h
  have he : (Term.static C n d).eval args s none [] s = some v := by
    simp [Term.eval, State.fieldNamed?, h1, h2, h4, h5, h6, h7]
  simp only [Cond.before, Cond.holds, Cond.value, he]
  cases v <;> simp_all [Value.isRef]
theorem vx_isRefq {C n d : String} {A : Nat → Prop} {s : State} {args : Array Value} (h : va_Zq C n d A s s.heap) : (Cond.isRef (.static C n d)).before args s = true := by
  rcases h with h | ⟨t, h⟩
  · exact vx_isRef h rfl
  · exact vx_isRef h rfl
/-- the same frame, seen from here: as if the method were called anew in this heap -/
theorem vx_rebase {T : State} (X : Stand p l e R s m args below meth c T locs cells slots) {R' : Room} (hf : R'.frames ≤ R.frames) (hl : R'.locals ≤ R.locals) (hc : cells + R'.cells ≤ R.cells) (hs : slots + R'.slots ≤ R.slots) :
    Stand p l e R' ((T.setVm s.vm).setFrames (.invoking m args :: below)) m args below meth c T [] 0 0 := by
  have htop : (T.setVm s.vm).topJava?.isSome := X.here.top
  have hF : ((T.setVm s.vm).setFrames (.invoking m args :: below)).frames = .invoking m args :: below := State.frames_setFrames _ (State.cur_lt_of_top htop)
  obtain ⟨g₀, hg0⟩ := Option.isSome_iff_exists.mp htop
  obtain ⟨r, hr⟩ := State.topJava?_eq_some.mp hg0
  have hl9 : e.platform.stackLimits (T.setVm s.vm).me = e.platform.stackLimits s.me := X.limits
  have hb9 : (T.setVm s.vm).me.stackBytes = s.me.stackBytes := X.bytes
  refine ⟨X.admits, X.cas, X.clock, hF, ?_, X.hears, X.method, X.code, X.here, X.tail, X.warmed, ?_, ?_, ?_⟩
  · have h := X.room
    have hU : ((T.setVm s.vm).setFrames (.invoking m args :: below)).localsInUse = s.localsInUse := by
      rw [State.localsInUse_invoking hF (meth := meth) (c := c) X.method X.code, State.localsInUse_invoking X.frames X.method X.code]
    simp only [State.hasRoom, Bool.and_eq_true, decide_eq_true_eq] at h ⊢
    obtain ⟨⟨⟨⟨h1, h2, h3, h4, h5, h6⟩, h7⟩, h8⟩, h9⟩ := h
    rw [X.frames, List.length_cons] at h2 h3
    have q1 := X.heapSize
    have q2 := X.used
    simp only [hF, hU, List.length_cons, State.stackLimits_setFrames, State.stackBytes_setFrames, hl9, hb9]
    refine ⟨⟨⟨⟨by omega, by omega, by omega, by omega, by omega, h6⟩, ?_⟩, ?_⟩, X.book⟩
    · show T.heap.size + R'.cells ≤ e.platform.maxCells
      omega
    · show T.slotsUsed + R'.slots ≤ e.platform.maxSlots
      omega
  · rw [State.stackLimits_setFrames]; rfl
  · rw [State.stackBytes_setFrames]; rfl
  · refine ⟨?_, Nat.le_refl _, Nat.le_refl _, ?_, ?_, fun a c9 h9 => ⟨c9, h9, rfl, rfl, fun _ _ => rfl⟩⟩
    · obtain ⟨t, ht, -⟩ := State.frames_cons hr
      show T.setVm s.vm = { ((T.setVm s.vm).setFrames (.invoking m args :: below)).setFrames (T.setVm s.vm).frames with heap := T.heap, slotsUsed := T.slotsUsed }
      rw [State.setFrames_setFrames, State.setFrames_self ht]
      rfl
    · show T.slotsUsed = T.slotsUsed + ((T.heap.toList.drop T.heap.size).map (·.slots.size)).sum
      rw [List.drop_eq_nil_of_le (Nat.le_of_eq Array.length_toList)]
      rfl
    · show ((T.heap.toList.drop T.heap.size).map (·.slots.size)).sum ≤ 0
      rw [List.drop_eq_nil_of_le (Nat.le_of_eq Array.length_toList)]
      exact Nat.le_refl _
/-- 'throw new E()': new; dup; invokespecial; athrow -/
theorem vx_throw0 {cc : ByteArray} {pc : Nat} (hexec : p.tables.exec = Jvm.exec) (hb : c.code = cc) (hl : l.stackTraces = false) {own cls : String} {names : List String} {ik ic mc ms : Nat} {A : Nat → Prop}
    (hown : s.vm.findClass own = some m.cls) (hcls : Bundle.fit cls = true) (hnames : ∀ n ∈ names, Bundle.fit n = true)
    (hk : (Cond.classLink own ik cls).before args s = true) (hini : (Cond.initialized cls).before args s = true) (hat : ∀ w ∈ vx_at0 own ic cls names, w.before args s = true)
    (hgood : ∀ w ∈ Cond.classLink own ik cls :: Cond.initialized cls :: vx_at0 own ic cls names, vx_ot w = true)
    (hU : vx_Zq Bundle.tN "UNASSIGNED_STACK" Bundle.steD A s s.heap) (hN : vx_Zq Bundle.tN "SUPPRESSED_SENTINEL" Bundle.listD A s s.heap) (hS : va_S A s.heap H locs) (hsize : ls.size = c.maxLocals)
    (d0 : decode cc pc = .ok (.new ik, 3)) (d3 : decode cc (pc + 3) = .ok (.dup, 1)) (d4 : decode cc (pc + 4) = .ok (.invokespecial ic, 3)) (d7 : decode cc (pc + 7) = .ok (.athrow, 1))
    (hout : ∀ x ∈ c.exceptionTable.toList, covers x (pc + 7) = false)
    (hRframes : names.length + 3 < R.frames) (hRlocals : (rest.map fun v => v.category).sum + (13 * (names.length + 1) + 42) ≤ R.locals) (hRcells : cells + 1 ≤ R.cells) (hRslots : slots + 6 ≤ R.slots) (hlocks : meth.locks = false)
    (hx : ∀ t : State, s.vm.Alike t.vm → H.size ≤ t.heap.size → (∀ q : Nat, q < H.size → t.heap[q]? = H[q]?) → XC cls s t)
    (hf : ∀ z ∈ locs, free z.base) (hc : cells + 1 ≤ mc) (hs : slots + 6 ≤ ms) :
    W p l e R s m args below meth c H locs cells slots (vx_MQ below Qc XC args s mc ms free) (F0 m pc ls rest) := by
  intro T hT X
  have htr : e.platform.stackTraces = false := (show e.platform.stackTraces = l.stackTraces by rw [X.admits.platform]).trans hl
  have Y := vx_rebase X (R' := { frames := R.frames, locals := R.locals, cells := 1, slots := 6 }) (Nat.le_refl _) (Nat.le_refl _) hRcells hRslots
  obtain ⟨s', hA⟩ : ∃ z, z = (T.setVm s.vm).setFrames (.invoking m args :: below) := ⟨_, rfl⟩
  rw [← hA] at Y
  have hvm : s'.vm = s.vm := by rw [hA]; rfl
  have hhp : s'.heap = H := by rw [hA]; exact hT
  have hW0 : s.WarmedH s'.vm := by rw [hvm]; exact State.WarmedH.refl s
  have hat' : ∀ w ∈ vx_at0 own ic cls names, w.before args s' = true := fun w hw => vx_ot_at hW0 hvm.symm (hgood w (List.mem_cons_of_mem _ (List.mem_cons_of_mem _ hw))) (hat w hw)
  have hk' : (Cond.classLink own ik cls).before args s' = true := vx_ot_at hW0 hvm.symm (hgood _ List.mem_cons_self) hk
  have hini' : (Cond.initialized cls).before args s' = true := vx_ot_at hW0 hvm.symm (hgood _ (List.mem_cons_of_mem _ List.mem_cons_self)) hini
  have hU' : vx_Zq Bundle.tN "UNASSIGNED_STACK" Bundle.steD A s' s'.heap := by rw [hhp]; exact vx_Zq.moved hW0.alike (hU.kept hS.2.1)
  have hN' : vx_Zq Bundle.tN "SUPPRESSED_SENTINEL" Bundle.listD A s' s'.heap := by rw [hhp]; exact vx_Zq.moved hW0.alike (hN.kept hS.2.1)
  have h : ∀ w ∈ Bundle.ownAtoms0 own ic cls names, w.before args s' = true := vx_own hat' (vx_isRefq hU'.1) (vx_isRefq hN'.1) hU'.2.word hN'.2.word
  have hown' : s'.vm.findClass own = some m.cls := by rw [hvm]; exact hown
  have hins : (Cond.instantiable cls 6).before args s' = true := h _ (by simp [Bundle.ownAtoms0])
  obtain ⟨vm₁, cX, kX, hfX, hkX, -, -, X₁, st1⟩ := Y.newCold hexec (own := own) (C := cls) (index := ik) (n := 6) hown' hk' hins hini'
    (g := F0 m pc ls rest) rfl (by rw [hb]; exact d0) (Nat.le_refl _) (Nat.le_refl _)
  generalize hT1 : (T.setVm vm₁).pushCell { cls := cX, slots := kX.instanceTypes.map defaultValue, vm := .none } = T1 at X₁ st1
  have hcat : (Value.ref T.heap.size).category = 1 := rfl
  have hcellA : T1.heap[T.heap.size]? = some (freshCell cX kX) := by rw [← hT1]; exact State.heap_pushCell_size _ _
  have d3' : decode c.code (pc + 3) = .ok (.dup, 1) := by rw [hb]; exact d3
  obtain ⟨U, hsteps, hrun, hend, hW, hsame, ce, hce, hO⟩ := X₁.ctorThrow0 hexec htr (own := own) (cls := cls) (names := names) (ic := ic) hown' hcls hnames h (fun x hx => nomatch hx) hfX hkX hcellA (by rw [hhp, hT]; exact Nat.le_refl _)
    (g := { method := m, pc := pc + 4, locals := ls, stack := .ref T.heap.size :: .ref T.heap.size :: rest, locked := none }) rfl hsize rfl rfl (rest := rest) rfl
    (by rw [hb]; exact d4) (by rw [hb]; exact d7) hout hRframes (by simp only [List.map_cons, List.sum_cons, hcat]; omega) hlocks
  obtain ⟨f1, f2⟩ := vx_frame hsame
  rw [hhp] at f1 f2
  have hWs : s.WarmedH U.vm := State.WarmedH.trans hW0 hW
  have hcl : s.vm.findClass cls = some ce.cls := by
    have h9 := hO.cls
    rw [hvm] at h9
    exact h9
  have hall : s.sameButNew ({ U with vm := s.vm } : State) locs mc ms := by
    subst hA
    obtain ⟨e1, e2⟩ := hsame
    rw [State.setFrames_setFrames] at e1
    have h2 : (T.setVm s.vm).sameButNew ({ U with vm := s.vm } : State) [] (0 + 1) (0 + 6) := ⟨e1, e2⟩
    have h3 := X.same.trans h2
    rw [List.append_nil] at h3
    exact h3.mono hc hs
  refine ⟨U, ?_, .threw T.heap.size, hrun, hend, Or.inr ⟨T.heap.size, rfl, cls, ce, locs, hx U hWs.alike f1 (fun q hq => f2 q hq (fun z hz => nomatch hz)), hce, hO.vm, hcl, hWs, hall, hf⟩⟩
  refine st1 _ ?_
  show Steps p.tables e below (T1.setTop { method := m, pc := pc + 3, locals := ls, stack := .ref T.heap.size :: rest, locked := none }) _
  jvm_step X₁.here [X₁.here.top, hexec, d3', Value.category]
  exact hsteps
/-- 'throw new E("text")': new; dup; ldc; invokespecial; athrow -/
theorem vx_throwS {cc : ByteArray} {pc : Nat} (hexec : p.tables.exec = Jvm.exec) (hb : c.code = cc) (hl : l.stackTraces = false) {own cls text : String} {names : List String} {ik is ic mc ms sa : Nat} {A : Nat → Prop}
    (hown : s.vm.findClass own = some m.cls) (hcls : Bundle.fit cls = true) (hnames : ∀ n ∈ names, Bundle.fit n = true)
    (hk : (Cond.classLink own ik cls).before args s = true) (hini : (Cond.initialized cls).before args s = true) (hstr : vk_R own is text sa s) (hat : ∀ w ∈ vx_atS own ic cls names, w.before args s = true)
    (hgood : ∀ w ∈ Cond.classLink own ik cls :: Cond.initialized cls :: vx_atS own ic cls names, vx_ot w = true)
    (hU : vx_Zq Bundle.tN "UNASSIGNED_STACK" Bundle.steD A s s.heap) (hN : vx_Zq Bundle.tN "SUPPRESSED_SENTINEL" Bundle.listD A s s.heap) (hS : va_S A s.heap H locs) (hsize : ls.size = c.maxLocals)
    (d0 : decode cc pc = .ok (.new ik, 3)) (d3 : decode cc (pc + 3) = .ok (.dup, 1)) (d4 : decode cc (pc + 4) = .ok (.ldc is, 2)) (d6 : decode cc (pc + 6) = .ok (.invokespecial ic, 3)) (d9 : decode cc (pc + 9) = .ok (.athrow, 1))
    (hout : ∀ x ∈ c.exceptionTable.toList, covers x (pc + 9) = false)
    (hRframes : names.length + 3 < R.frames) (hRlocals : (rest.map fun v => v.category).sum + (13 * (names.length + 1) + 43) ≤ R.locals) (hRcells : cells + 1 ≤ R.cells) (hRslots : slots + 6 ≤ R.slots) (hlocks : meth.locks = false)
    (hx : ∀ t : State, s.vm.Alike t.vm → H.size ≤ t.heap.size → (∀ q : Nat, q < H.size → t.heap[q]? = H[q]?) → XC cls s t)
    (hf : ∀ z ∈ locs, free z.base) (hc : cells + 1 ≤ mc) (hs : slots + 6 ≤ ms) :
    W p l e R s m args below meth c H locs cells slots (vx_MQ below Qc XC args s mc ms free) (F0 m pc ls rest) := by
  intro T hT X
  have htr : e.platform.stackTraces = false := (show e.platform.stackTraces = l.stackTraces by rw [X.admits.platform]).trans hl
  have Y := vx_rebase X (R' := { frames := R.frames, locals := R.locals, cells := 1, slots := 6 }) (Nat.le_refl _) (Nat.le_refl _) hRcells hRslots
  obtain ⟨s', hA⟩ : ∃ z, z = (T.setVm s.vm).setFrames (.invoking m args :: below) := ⟨_, rfl⟩
  rw [← hA] at Y
  have hvm : s'.vm = s.vm := by rw [hA]; rfl
  have hhp : s'.heap = H := by rw [hA]; exact hT
  have hW0 : s.WarmedH s'.vm := by rw [hvm]; exact State.WarmedH.refl s
  have hat' : ∀ w ∈ vx_atS own ic cls names, w.before args s' = true := fun w hw => vx_ot_at hW0 hvm.symm (hgood w (List.mem_cons_of_mem _ (List.mem_cons_of_mem _ hw))) (hat w hw)
  have hk' : (Cond.classLink own ik cls).before args s' = true := vx_ot_at hW0 hvm.symm (hgood _ List.mem_cons_self) hk
  have hini' : (Cond.initialized cls).before args s' = true := vx_ot_at hW0 hvm.symm (hgood _ (List.mem_cons_of_mem _ List.mem_cons_self)) hini
  have hU' : vx_Zq Bundle.tN "UNASSIGNED_STACK" Bundle.steD A s' s'.heap := by rw [hhp]; exact vx_Zq.moved hW0.alike (hU.kept hS.2.1)
  have hN' : vx_Zq Bundle.tN "SUPPRESSED_SENTINEL" Bundle.listD A s' s'.heap := by rw [hhp]; exact vx_Zq.moved hW0.alike (hN.kept hS.2.1)
  have h : ∀ w ∈ Bundle.ownAtoms own ic cls names, w.before args s' = true := vx_own hat' (vx_isRefq hU'.1) (vx_isRefq hN'.1) hU'.2.word hN'.2.word
  have hown' : s'.vm.findClass own = some m.cls := by rw [hvm]; exact hown
  have hins : (Cond.instantiable cls 6).before args s' = true := h _ (by simp [Bundle.ownAtoms])
  obtain ⟨vm₁, cX, kX, hfX, hkX, -, -, X₁, st1⟩ := Y.newCold hexec (own := own) (C := cls) (index := ik) (n := 6) hown' hk' hins hini'
    (g := F0 m pc ls rest) rfl (by rw [hb]; exact d0) (Nat.le_refl _) (Nat.le_refl _)
  generalize hT1 : (T.setVm vm₁).pushCell { cls := cX, slots := kX.instanceTypes.map defaultValue, vm := .none } = T1 at X₁ st1
  have hcat : (Value.ref T.heap.size).category = 1 := rfl
  have hcellA : T1.heap[T.heap.size]? = some (freshCell cX kX) := by rw [← hT1]; exact State.heap_pushCell_size _ _
  have d3' : decode c.code (pc + 3) = .ok (.dup, 1) := by rw [hb]; exact d3
  have d4' : decode c.code (pc + 4) = .ok (.ldc is, 2) := by rw [hb]; exact d4
  have hstr' : vk_R own is text sa s' := vk_R.warm hW0 hstr
  obtain ⟨U, hsteps, hrun, hend, hW, hsame, ce, hce, hO⟩ := X₁.ctorThrowS hexec htr (own := own) (cls := cls) (names := names) (ic := ic) hown' hcls hnames h (fun x hx => nomatch hx) hfX hkX hcellA (by rw [hhp, hT]; exact Nat.le_refl _) (msg := .ref sa) rfl
    (g := { method := m, pc := pc + 6, locals := ls, stack := .ref sa :: .ref T.heap.size :: .ref T.heap.size :: rest, locked := none }) rfl hsize rfl rfl (rest := rest) rfl
    (by rw [hb]; exact d6) (by rw [hb]; exact d9) hout hRframes (by simp only [List.map_cons, List.sum_cons, hcat]; omega) hlocks
  obtain ⟨f1, f2⟩ := vx_frame hsame
  rw [hhp] at f1 f2
  have hWs : s.WarmedH U.vm := State.WarmedH.trans hW0 hW
  have hcl : s.vm.findClass cls = some ce.cls := by
    have h9 := hO.cls
    rw [hvm] at h9
    exact h9
  have hall : s.sameButNew ({ U with vm := s.vm } : State) locs mc ms := by
    subst hA
    obtain ⟨e1, e2⟩ := hsame
    rw [State.setFrames_setFrames] at e1
    have h2 : (T.setVm s.vm).sameButNew ({ U with vm := s.vm } : State) [] (0 + 1) (0 + 6) := ⟨e1, e2⟩
    have h3 := X.same.trans h2
    rw [List.append_nil] at h3
    exact h3.mono hc hs
  refine ⟨U, ?_, .threw T.heap.size, hrun, hend, Or.inr ⟨T.heap.size, rfl, cls, ce, locs, hx U hWs.alike f1 (fun q hq => f2 q hq (fun z hz => nomatch hz)), hce, hO.vm, hcl, hWs, hall, hf⟩⟩
  refine st1 _ ?_
  show Steps p.tables e below (T1.setTop { method := m, pc := pc + 3, locals := ls, stack := .ref T.heap.size :: rest, locked := none }) _
  jvm_step X₁.here [X₁.here.top, hexec, d3', Value.category]
  exact X₁.ldcString hexec (own := own) (text := text) (index := is) (a := sa) hown' hstr'.1 hstr'.2
    (g := { method := m, pc := pc + 4, locals := ls, stack := .ref T.heap.size :: .ref T.heap.size :: rest, locked := none }) rfl d4' _ hsteps
/-- 'throw new E("text")', the text by a wide index -/
theorem vx_throwSW {cc : ByteArray} {pc : Nat} (hexec : p.tables.exec = Jvm.exec) (hb : c.code = cc) (hl : l.stackTraces = false) {own cls text : String} {names : List String} {ik is ic mc ms sa : Nat} {A : Nat → Prop}
    (hown : s.vm.findClass own = some m.cls) (hcls : Bundle.fit cls = true) (hnames : ∀ n ∈ names, Bundle.fit n = true)
    (hk : (Cond.classLink own ik cls).before args s = true) (hini : (Cond.initialized cls).before args s = true) (hstr : vk_R own is text sa s) (hat : ∀ w ∈ vx_atS own ic cls names, w.before args s = true)
    (hgood : ∀ w ∈ Cond.classLink own ik cls :: Cond.initialized cls :: vx_atS own ic cls names, vx_ot w = true)
    (hU : vx_Zq Bundle.tN "UNASSIGNED_STACK" Bundle.steD A s s.heap) (hN : vx_Zq Bundle.tN "SUPPRESSED_SENTINEL" Bundle.listD A s s.heap) (hS : va_S A s.heap H locs) (hsize : ls.size = c.maxLocals)
    (d0 : decode cc pc = .ok (.new ik, 3)) (d3 : decode cc (pc + 3) = .ok (.dup, 1)) (d4 : decode cc (pc + 4) = .ok (.ldc_w is, 3)) (d7 : decode cc (pc + 7) = .ok (.invokespecial ic, 3)) (d10 : decode cc (pc + 10) = .ok (.athrow, 1))
    (hout : ∀ x ∈ c.exceptionTable.toList, covers x (pc + 10) = false)
    (hRframes : names.length + 3 < R.frames) (hRlocals : (rest.map fun v => v.category).sum + (13 * (names.length + 1) + 43) ≤ R.locals) (hRcells : cells + 1 ≤ R.cells) (hRslots : slots + 6 ≤ R.slots) (hlocks : meth.locks = false)
    (hx : ∀ t : State, s.vm.Alike t.vm → H.size ≤ t.heap.size → (∀ q : Nat, q < H.size → t.heap[q]? = H[q]?) → XC cls s t)
    (hf : ∀ z ∈ locs, free z.base) (hc : cells + 1 ≤ mc) (hs : slots + 6 ≤ ms) :
    W p l e R s m args below meth c H locs cells slots (vx_MQ below Qc XC args s mc ms free) (F0 m pc ls rest) := by
  intro T hT X
  have htr : e.platform.stackTraces = false := (show e.platform.stackTraces = l.stackTraces by rw [X.admits.platform]).trans hl
  have Y := vx_rebase X (R' := { frames := R.frames, locals := R.locals, cells := 1, slots := 6 }) (Nat.le_refl _) (Nat.le_refl _) hRcells hRslots
  obtain ⟨s', hA⟩ : ∃ z, z = (T.setVm s.vm).setFrames (.invoking m args :: below) := ⟨_, rfl⟩
  rw [← hA] at Y
  have hvm : s'.vm = s.vm := by rw [hA]; rfl
  have hhp : s'.heap = H := by rw [hA]; exact hT
  have hW0 : s.WarmedH s'.vm := by rw [hvm]; exact State.WarmedH.refl s
  have hat' : ∀ w ∈ vx_atS own ic cls names, w.before args s' = true := fun w hw => vx_ot_at hW0 hvm.symm (hgood w (List.mem_cons_of_mem _ (List.mem_cons_of_mem _ hw))) (hat w hw)
  have hk' : (Cond.classLink own ik cls).before args s' = true := vx_ot_at hW0 hvm.symm (hgood _ List.mem_cons_self) hk
  have hini' : (Cond.initialized cls).before args s' = true := vx_ot_at hW0 hvm.symm (hgood _ (List.mem_cons_of_mem _ List.mem_cons_self)) hini
  have hU' : vx_Zq Bundle.tN "UNASSIGNED_STACK" Bundle.steD A s' s'.heap := by rw [hhp]; exact vx_Zq.moved hW0.alike (hU.kept hS.2.1)
  have hN' : vx_Zq Bundle.tN "SUPPRESSED_SENTINEL" Bundle.listD A s' s'.heap := by rw [hhp]; exact vx_Zq.moved hW0.alike (hN.kept hS.2.1)
  have h : ∀ w ∈ Bundle.ownAtoms own ic cls names, w.before args s' = true := vx_own hat' (vx_isRefq hU'.1) (vx_isRefq hN'.1) hU'.2.word hN'.2.word
  have hown' : s'.vm.findClass own = some m.cls := by rw [hvm]; exact hown
  have hins : (Cond.instantiable cls 6).before args s' = true := h _ (by simp [Bundle.ownAtoms])
  obtain ⟨vm₁, cX, kX, hfX, hkX, -, -, X₁, st1⟩ := Y.newCold hexec (own := own) (C := cls) (index := ik) (n := 6) hown' hk' hins hini'
    (g := F0 m pc ls rest) rfl (by rw [hb]; exact d0) (Nat.le_refl _) (Nat.le_refl _)
  generalize hT1 : (T.setVm vm₁).pushCell { cls := cX, slots := kX.instanceTypes.map defaultValue, vm := .none } = T1 at X₁ st1
  have hcat : (Value.ref T.heap.size).category = 1 := rfl
  have hcellA : T1.heap[T.heap.size]? = some (freshCell cX kX) := by rw [← hT1]; exact State.heap_pushCell_size _ _
  have d3' : decode c.code (pc + 3) = .ok (.dup, 1) := by rw [hb]; exact d3
  have d4' : decode c.code (pc + 4) = .ok (.ldc_w is, 3) := by rw [hb]; exact d4
  have hstr' : vk_R own is text sa s' := vk_R.warm hW0 hstr
  obtain ⟨U, hsteps, hrun, hend, hW, hsame, ce, hce, hO⟩ := X₁.ctorThrowS hexec htr (own := own) (cls := cls) (names := names) (ic := ic) hown' hcls hnames h (fun x hx => nomatch hx) hfX hkX hcellA (by rw [hhp, hT]; exact Nat.le_refl _) (msg := .ref sa) rfl
    (g := { method := m, pc := pc + 7, locals := ls, stack := .ref sa :: .ref T.heap.size :: .ref T.heap.size :: rest, locked := none }) rfl hsize rfl rfl (rest := rest) rfl
    (by rw [hb]; exact d7) (by rw [hb]; exact d10) hout hRframes (by simp only [List.map_cons, List.sum_cons, hcat]; omega) hlocks
  obtain ⟨f1, f2⟩ := vx_frame hsame
  rw [hhp] at f1 f2
  have hWs : s.WarmedH U.vm := State.WarmedH.trans hW0 hW
  have hcl : s.vm.findClass cls = some ce.cls := by
    have h9 := hO.cls
    rw [hvm] at h9
    exact h9
  have hall : s.sameButNew ({ U with vm := s.vm } : State) locs mc ms := by
    subst hA
    obtain ⟨e1, e2⟩ := hsame
    rw [State.setFrames_setFrames] at e1
    have h2 : (T.setVm s.vm).sameButNew ({ U with vm := s.vm } : State) [] (0 + 1) (0 + 6) := ⟨e1, e2⟩
    have h3 := X.same.trans h2
    rw [List.append_nil] at h3
    exact h3.mono hc hs
  refine ⟨U, ?_, .threw T.heap.size, hrun, hend, Or.inr ⟨T.heap.size, rfl, cls, ce, locs, hx U hWs.alike f1 (fun q hq => f2 q hq (fun z hz => nomatch hz)), hce, hO.vm, hcl, hWs, hall, hf⟩⟩
  refine st1 _ ?_
  show Steps p.tables e below (T1.setTop { method := m, pc := pc + 3, locals := ls, stack := .ref T.heap.size :: rest, locked := none }) _
  jvm_step X₁.here [X₁.here.top, hexec, d3', Value.category]
  exact X₁.ldcStringW hexec (own := own) (text := text) (index := is) (a := sa) hown' hstr'.1 hstr'.2
    (g := { method := m, pc := pc + 4, locals := ls, stack := .ref T.heap.size :: .ref T.heap.size :: rest, locked := none }) rfl d4' _ hsteps
end Ends
section Bodies
variable {l : Launch}
theorem vx_ofW {y : MethodName} {ws ws' : List Cond} {rm : Room} {Pc : Array Value → State → Prop} {Qc : Array Value → State → Outcome → State → Prop} {XC : String → State → State → Prop} {mc ms : Nat} {free : Addr → Prop} {cc : ByteArray} {maxL : Nat} {ret : Option FieldType}
    (hy : plainName y.cls = true) (hw : ws = Cond.code y cc maxL ret :: ws')
    (body : ∀ p e s m args below meth c s₁, BodyLoose p l y (headSpec ws rm) cc maxL ret e s m args below meth c s₁ → c.maxLocals = maxL → (∀ x ∈ c.exceptionTable.toList, False) → Pc args s →
      W p l e (headSpec ws rm).room s m args below meth c s.heap [] 0 0 (vx_MQ below Qc XC args s mc ms free) (entryFrame m args maxL)) : vx_Met l y ws rm Pc Qc XC mc ms free := by
  refine MetFree.of_bodyS (code := cc) (maxLocals := maxL) (ret := ret) hy ?_ ?_
  · intro args s m h hn
    obtain ⟨meth, c, h1, h2, h3, h4, h5, h6, -, -⟩ := Cond.code_spec hn (atoms_spec (ws := ws) h _ (by rw [hw]; exact List.mem_cons_self))
    exact ⟨meth, c, h1, h2, h3, h4, h5, h6⟩
  · intro p e s m args below meth c s₁ B hml hP _
    have hh0 : s₁.heap = s.heap := by rw [B.state]; rfl
    have ht : ∀ x ∈ c.exceptionTable.toList, False := by
      obtain ⟨meth9, c9, h1, h2, -, -, -, -, h7, -⟩ := Cond.code_spec B.named (atoms_spec (ws := ws) B.pre _ (by rw [hw]; exact List.mem_cons_self))
      cases Option.some.inj (h1.symm.trans B.method)
      cases Option.some.inj (h2.symm.trans (Stand.of_body B).code)
      intro x hx
      rw [Array.isEmpty_iff.mp h7] at hx
      cases hx
    obtain ⟨t, a1, o, b1, b2, b3⟩ := body p e s m args below meth c s₁ B hml ht hP s₁ hh0 (Stand.of_body B)
    exact ⟨t, o, a1, b1, b2, b3⟩
/-- the table of a body with handlers -/
theorem vx_table {p : Program} {x y : MethodName} {S : Spec} {cc bytes : ByteArray} {maxL maxL' : Nat} {ret ret' : Option FieldType} {e : Env} {s s₁ : State} {m : MethodId} {args : Array Value} {below : List Frame} {meth : Method} {c : Code} {hh : List (Nat × Nat × Nat × Nat)}
    (B : BodyLoose p l y S cc maxL ret e s m args below meth c s₁) (h : (Cond.codeWith y bytes maxL' ret' hh).before args s = true) : c.exceptionTable.toList = tableOf hh := by
  obtain ⟨m9, meth9, c9, hn9, h1, h2, -, -, h6, -⟩ := Cond.codeWith_spec h
  cases Option.some.inj (hn9.symm.trans B.named)
  cases Option.some.inj (h1.symm.trans B.method)
  cases Option.some.inj (h2.symm.trans (Stand.of_body B).code)
  rw [← h6, table_eq]
end Bodies
end VXA
/-! ===== END ===== -/
/-! ===== BEGIN a static call of a method with an exception table ===== -/
section VXS
variable {p : Program} {l : Launch} {e : Env} {R : Room} {s : State} {m : MethodId} {args : Array Value} {below : List Frame} {meth : Method} {c : Code} {T : State} {H : Heap} {locs : List Loc} {cells slots : Nat}
abbrev vx_CSW (R : Room) (s : State) (args : Array Value) (own : String) (index : Nat) (y : MethodName) (bytes : ByteArray) (maxL : Nat) (ret : Option FieldType) (hh : List (Nat × Nat × Nat × Nat)) (ws : List Cond) (rm : Room) (mc ms n : Nat) : Prop :=
  (rm.cells = mc ∧ rm.slots = ms ∧ rm.frames + 1 ≤ R.frames ∧ 8 + (maxL + 11) + rm.locals ≤ R.locals ∧ (∀ w ∈ ws, ∀ (a' : Array Value) (U : State), s.WarmedH U.vm → w.before a' U = true) ∧ Cond.codeWith y bytes maxL ret hh ∈ ws) ∧
  (Cond.codeWith y bytes maxL ret hh).before args s = true ∧ (Cond.initialized y.cls).before args s = true ∧ (y.cls ≠ "java/lang/invoke/MethodHandle" ∧ y.cls ≠ "java/lang/invoke/VarHandle") ∧
  (∀ sig, parseMethodDescriptor y.desc = some sig → n = sig.parameters.length) ∧ (Cond.methodLink own index y).before args s = true ∧ (Cond.static y).before args s = true
theorem vx_cwSW {own : String} {index maxL mc ms : Nat} {y : MethodName} {bytes : ByteArray} {ret : Option FieldType} {hh : List (Nat × Nat × Nat × Nat)} {Ts ws ws' : List Cond} {rm : Room} (n : Nat) (ht : ∀ w ∈ Ts, w.before args s = true) (hT : GoodIn Ts (va_wsS own index y ws)) (hw : ws = Cond.codeWith y bytes maxL ret hh :: ws') (hrc : rm.cells = mc) (hrs : rm.slots = ms)
    (hd : y.cls ≠ "java/lang/invoke/MethodHandle" ∧ y.cls ≠ "java/lang/invoke/VarHandle" ∧ (parseMethodDescriptor y.desc).map (fun d => d.parameters.length) = some n) (hR : rm.frames + 1 ≤ R.frames ∧ 8 + (maxL + 11) + rm.locals ≤ R.locals) :
    vx_CSW R s args own index y bytes maxL ret hh ws rm mc ms n := by
  have ok : ∀ w ∈ va_wsS own index y ws, w.before args s = true := fun w h => ht w (hT w h).1
  have hG : GoodIn Ts ws := fun w h => hT w (by unfold va_wsS; exact List.mem_append_right _ h)
  have hc : Cond.codeWith y bytes maxL ret hh ∈ ws := by rw [hw]; exact List.mem_cons_self
  refine ⟨⟨hrc, hrs, hR.1, hR.2, pay_in ht hG, hc⟩, ht _ (hG _ hc).1, ok _ (by simp [va_wsS]), ⟨hd.1, hd.2.1⟩, fun sig h => ?_, ok _ (by simp [va_wsS]), ok _ (by simp [va_wsS])⟩
  have h2 := hd.2.2
  rw [h] at h2
  exact (Option.some.inj h2).symm
theorem vx_callSW (X : Stand p l e R s m args below meth c T locs cells slots) (hexec : p.tables.exec = Jvm.exec) {own : String} {index : Nat} {y : MethodName} {bytes : ByteArray} {maxL : Nat} {ret : Option FieldType} {hh : List (Nat × Nat × Nat × Nat)}
    (hown : s.vm.findClass own = some m.cls) (hlink : (Cond.methodLink own index y).before args s = true) (hstat : (Cond.static y).before args s = true) (hinit : (Cond.initialized y.cls).before args s = true)
    (hcode : (Cond.codeWith y bytes maxL ret hh).before args s = true) (hy : y.cls ≠ "java/lang/invoke/MethodHandle" ∧ y.cls ≠ "java/lang/invoke/VarHandle")
    {W9 : Nat} {Pre : Pt → Array Value → Prop} {Post : Pt → Array Value → Option Value → Pt → Prop} (hK : Back l R p e below s args y 3 W9 Pre Post)
    {g : JFrame} (hg : g.method = m) (hsize : g.locals.size = c.maxLocals) {argsL rest : List Value} (hlen : ∀ sig, parseMethodDescriptor y.desc = some sig → argsL.length = sig.parameters.length)
    (hstack : g.stack = argsL.reverse ++ rest) (hW : 2 * g.monitorRoom + (rest.map fun v => v.category).sum ≤ W9) (hdg : decode c.code g.pc = .ok (.invokestatic index, 3))
    (hpre : ∀ vm₁, s.WarmedH vm₁ → Pre ⟨T.setVm vm₁, locs, cells, slots⟩ argsL.toArray) :
    ∃ (v : Option Value) (vm₁ : Vm) (B : Pt), s.WarmedH vm₁ ∧ Stand p l e R s m args below meth c B.U B.locs B.cells B.slots ∧ Post ⟨T.setVm vm₁, locs, cells, slots⟩ argsL.toArray v B ∧
      ∀ target, Steps p.tables e below (B.U.setTop { g with pc := g.pc + 3, stack := v.toList ++ rest }) target → Steps p.tables e below (T.setTop g) target := by
  obtain ⟨mk, methM, cM, hnamed, hmethM, -, -, -, -, -, -, hsigM⟩ := Cond.codeWith_spec hcode
  have hstatic : methM.isStatic = true := Cond.static_spec hnamed hmethM hstat
  obtain ⟨kP, hkP, -⟩ := className_of_methodNamed hnamed
  have hinitP : kP.init = .initialized := Cond.initialized_spec (findClass_of_methodNamed hnamed) hkP hinit
  obtain ⟨vm₁, X₁, hstep₁⟩ := X.invokestatic hexec hown hlink hnamed hmethM hstatic hkP hinitP hy (g := g) hg (argsL := argsL) (rest := rest) (hlen _ hsigM) hstack hdg
  obtain ⟨v, B, X', hpost, hsteps⟩ := hK m meth c ⟨T.setVm vm₁, locs, cells, slots⟩ { g with stack := rest } (.invokestatic index) mk argsL.toArray X₁ hg hsize hdg hW (X₁.named hnamed) (hpre vm₁ X₁.warmed)
  exact ⟨v, vm₁, B, X₁.warmed, X', hpost, fun target h => hstep₁ _ fun acts => by rw [doInvoke_state]; exact hsteps.trans h⟩
theorem vx_runSW {y : MethodName} {bytes cc : ByteArray} {maxL nL mc ms n index : Nat} {ret : Option FieldType} {hh : List (Nat × Nat × Nat × Nat)} {ws : List Cond} {rm : Room} {Pc : Array Value → State → Prop} {Qc : Array Value → State → Outcome → State → Prop} {free : Addr → Prop} {Ts : List Cond} {own : String} {As rest : List Value} {g : JFrame}
    (S : CallFix p m c cc nL s args Ts own) (hM : Met l y ws rm Pc Qc mc ms free) (cw : vx_CSW R s args own index y bytes maxL ret hh ws rm mc ms n) (hp : PreS s H Pc As)
    (hg : g.method = m) (hn : As.length = n) (hsize : g.locals.size = nL) (hstack : g.stack = As.reverse ++ rest) (hW : 2 * g.monitorRoom + (rest.map fun v => v.category).sum ≤ 8) (hdg : decode cc g.pc = .ok (.invokestatic index, 3)) (hf : cells + mc ≤ R.cells ∧ slots + ms ≤ R.slots) :
    va_Run p l e R s m args below meth c H locs cells slots mc ms g rest (Qc As.toArray) (free) := by
  obtain ⟨⟨hrc, hrs, hfr, hlo, hws, hcw⟩, hcode, hini, hy, hlen, hl, hstt⟩ := cw
  have hK : Back l R p e below s args y 3 8 (PreOf R mc ms Pc) (PostOf Qc mc ms free) := va_backW (hh := hh) (bytes := bytes) (maxL := maxL) (ret := ret) hM hp.1 hrc hrs hfr hlo hws hcw (fun a' U hW => word_at hW (Or.inl (by first | rfl | simp [Cond.onTables, Cond.keeps, Cond.steady])) hini)
  obtain ⟨hx, hb, hml, ho, -⟩ := S
  intro T hT X
  obtain ⟨v, vm₁, ⟨U', l2, c2, s2⟩, hW₁, X', ⟨g', mk, t, L, e1, e2, hq, h1, hL, h2, h3⟩, st⟩ := vx_callSW X hx (hh := hh) (bytes := bytes) (maxL := maxL) (ret := ret) ho hl hstt hini hcode hy hK hg (hsize.trans hml.symm) (argsL := As) (rest := rest) (fun sig h => hn.trans (hlen sig h)) hstack hW (by rw [hb]; exact hdg)
    (fun vm₁ hW₁ => ⟨hf.1, hf.2, hp.2 (T.setVm vm₁) hT hW₁⟩)
  dsimp only [Pt.U, Pt.locs, Pt.cells, Pt.slots] at X' e1 e2 h1 h2 h3 st
  subst h1; subst h2; subst h3
  exact ⟨v, (T.setVm vm₁).calling g' mk As.toArray, t, U', L, hT, X', hL, e1, e2, hq, st⟩
/-- not caught here, past rows that name other classes: it goes on to the caller -/
theorem vx_outP {p : Program} {l : Launch} {e : Env} {R : Room} {s : State} {m : MethodId} {args : Array Value} {below : List Frame} {meth : Method} {c : Code} {H : Heap} {locs : List Loc} {cells slots : Nat} {free : Addr → Prop} {ls : Array Slot} {rest : List Value} {Qc : Array Value → State → Outcome → State → Prop} {XC : String → State → State → Prop}
    {pc : Nat} {own E : String} {ce : Cell} {q : Addr} {mc ms : Nat} (hown : s.vm.findClass own = some m.cls) (hlocks : meth.locks = false)
    (hpass : ∀ z ∈ c.exceptionTable.toList, covers z pc = false ∨ (z.catchType ≠ 0 ∧ ∃ nm : String, (Cond.classLink own z.catchType nm).before args s = true ∧ va_Nc E nm s)) (hcell : H[q]? = some ce) (hv : ce.vm = .none) (hcl : s.vm.findClass E = some ce.cls)
    (hx : ∀ t : State, t.heap = H → s.vm.Alike t.vm → XC E s t) (hf : ∀ z ∈ locs, free z.base) (hc : cells ≤ mc) (hs : slots ≤ ms) :
    vx_W p l e R s m args below meth c H locs cells slots (vx_MQ below Qc XC args s mc ms free) (F0 m pc ls rest) q := by
  intro T hT X
  have hpl : e.platform.magicAccessors = ({} : Platform).magicAccessors := by rw [X.admits.platform]
  obtain ⟨vm', hW', X', st⟩ := X.outThrough hlocks q (g := F0 m pc ls rest) rfl rfl rfl (cell := ce) (by rw [hT]; exact hcell) (by rw [hv]; rfl)
    (by obtain ⟨k9, h9, -⟩ := Vm.findClass_spec hcl; exact ⟨k9, h9⟩) (fun z hz => by
      rcases hpass z hz with h | ⟨hz0, nm, hl1, hn1⟩
      · exact Or.inl h
      · obtain ⟨c6, hc6, hcl6⟩ := Cond.classLink_spec hown hl1 e.platform hpl
        obtain ⟨a8, b8, h1, h2, h3⟩ := hn1
        cases Option.some.inj (h1.symm.trans hcl)
        cases Option.some.inj (h2.symm.trans hc6)
        exact Or.inr ⟨hz0, _, hcl6, h3⟩)
  obtain ⟨g₀, hfr⟩ := X'.frames_eq
  have hcell9 : ((T.setVm vm').setFrames (.throwing q :: below)).heap[q]? = some ce := by
    show T.heap[q]? = some ce
    rw [hT]; exact hcell
  have hend : Ended ((T.setVm vm').setFrames (.throwing q :: below)) below (.threw q) := State.frames_setFrames _ (State.cur_lt_of_frames hfr)
  refine ⟨(T.setVm vm').setFrames (.throwing q :: below), ?_, .threw q, X'.here.running, hend, Or.inr ⟨q, rfl, E, ce, locs, hx _ hT (X'.ends _).1.alike, hcell9, hv, hcl, (X'.ends _).1, (X'.ends _).2.mono hc hs, hf⟩⟩
  rw [X.pushThrowing_eq]
  exact st
/-- a thing of a world lies in the heap -/
theorem vx_lt {D : va_G} {cl : List vw_C} {ws : va_W} {H1 : Heap} (h : va_P D cl ws H1) {k : Nat} {q : Nat × va_E} (hk : ws[k]? = some q) : q.1 < H1.size := (h k q hk).lt
end VXS
/-! ===== END ===== -/
/-! ===== BEGIN methods with a table of their own: called by a name, returning or throwing ===== -/
section VXH
/-! vx_backW, vx_callVX, vx_callSX, vx_callVW, vx_runVW, vx_runVX, vx_runSX, vx_ofWH follow the same proofs as their sisters above (Free/Laws.lean, Shelf42/LK1.lean); vx_outP calls Shelf42/NT130.lean (outThrough). -/
section
variable {l : Launch} {R : Room} {p : Program} {e : Env} {below : List Frame} {s : State} {sargs : Array Value} {y : MethodName} {len W9 : Nat}
theorem vx_backW {ws : List Cond} {rm : Room} {Pc : Array Value → State → Prop} {Qc : Array Value → State → Outcome → State → Prop} {XC : String → State → State → Prop} {mc ms : Nat} {free : Addr → Prop} {bytes : ByteArray} {maxL : Nat} {ret : Option FieldType} {hh : List (Nat × Nat × Nat × Nat)}
    (hM : vx_Met l y ws rm Pc Qc XC mc ms free) (hblind : FrameBlind Pc) (hrc : rm.cells = mc) (hrs : rm.slots = ms)
    (hframes : rm.frames + 1 ≤ R.frames) (hlocals : W9 + (maxL + 11) + rm.locals ≤ R.locals)
    (hws : ∀ w ∈ ws, ∀ a' U, s.WarmedH U.vm → w.before a' U = true) (hcode : Cond.codeWith y bytes maxL ret hh ∈ ws) (hinit : ∀ a' U, s.WarmedH U.vm → (Cond.initialized y.cls).before a' U = true) :
    vx_Back l R p e below s sargs y len W9 (PreOf R mc ms Pc) (PostOf Qc mc ms free) (vx_Post XC mc ms free) := by
  intro m meth c A g ig mk a X hg hsize hdg hW hn hp
  have h1 : (headSpec ws rm).pre.before a A.U = true := atoms_intro fun w hw => hws w hw _ _ X.warmed
  have h2 : (Cond.codeWith y bytes maxL ret hh).before a A.U = true := hws _ hcode _ _ X.warmed
  have h3 : (Cond.initialized y.cls).before a A.U = true := hinit _ _ X.warmed
  have h4 : A.cells + (headSpec ws rm).room.cells ≤ R.cells := by rw [show (headSpec ws rm).room.cells = mc from hrc]; exact hp.1
  have h5 : A.slots + (headSpec ws rm).room.slots ≤ R.slots := by rw [show (headSpec ws rm).room.slots = ms from hrs]; exact hp.2.1
  have hPc : Pc a (A.U.calling g mk a) := hblind _ _ _ _ hp.2.2
  obtain ⟨U, Ls, c0, s0⟩ := A
  dsimp only [Pt.U, Pt.locs, Pt.cells, Pt.slots] at h1 h2 h3 h4 h5 X hn hPc ⊢
  obtain ⟨m9, methY, cY, hn9, hmY, hcY, -, hlY, -⟩ := Cond.codeWith_spec h2
  cases Option.some.inj (hn9.symm.trans hn)
  obtain ⟨kY, hkY, -⟩ := className_of_methodNamed hn
  have hinitY : kY.init = .initialized := Cond.initialized_spec (findClass_of_methodNamed hn) hkY h3
  have h : At U g.method c below := by rw [hg]; exact X.here
  have hlocals9 : W9 + (maxL + 11) + (headSpec ws rm).room.locals ≤ R.locals := hlocals
  have happ : (headSpec ws rm).appliesLoose y e.platform (U.calling g mk a) = true :=
    Spec.appliesLoose_calling (g := g) h hdg hn hkY hinitY
      (X.room_calling (g := g) (R' := (headSpec ws rm).room) hsize hmY hcY hframes (by rw [hlY]; omega) h4 h5) h1
  obtain ⟨mid, hmid⟩ := h.above
  have hfr : (U.setTop g).frames = (.java g :: mid) ++ below := by rw [State.frames_setTop' g h.top, hmid]; rfl
  obtain ⟨o, s₂, hsteps, -, hend, hq⟩ := Steps.callFree hM p X.admits X.cas X.clock (acts := []) hfr happ hPc trivial
  have hq' : vx_Q Qc XC mc ms free a (U.calling g mk a) o s₂ := hq
  rw [State.frames_setTop' g h.top] at hend
  obtain ⟨g₀, hg0⟩ := Option.isSome_iff_exists.mp h.top
  obtain ⟨r, hr⟩ := State.topJava?_eq_some.mp hg0
  have hr' : (({ U with heap := s₂.heap, slotsUsed := s₂.slotsUsed } : State).setVm s₂.vm).frames = .java g₀ :: r := hr
  rcases hq' with ⟨hqc, L, hfe, hL⟩ | ⟨q, rfl, E, ce, L, hx, hce, hcv, hcl, hW₂, hsm, hL⟩
  · obtain ⟨⟨v, rfl⟩, hW₂, e2, q2, q3, q4, q5, q6⟩ := id hfe
    have e3 : s₂ = ({ (U.calling g mk a).setFrames s₂.frames with heap := s₂.heap, slotsUsed := s₂.slotsUsed } : State).setVm s₂.vm := by
      have : s₂ = ({ s₂ with vm := (U.calling g mk a).vm } : State).setVm s₂.vm := rfl
      rw [e2] at this
      exact this
    obtain ⟨c₂, i₂, len₂, hc₂, hd₂, hf₂⟩ := hend
    have hW' : U.WarmedH s₂.vm := hW₂
    have hcc : c₂ = c := by
      have h1 : s₂.code? g.method = U.code? g.method := by
        rw [State.code?_eq, State.code?_eq, hW'.alike.method?]
      exact Option.some.inj (hc₂.symm.trans (h1.trans h.code))
    subst hcc
    have hlen : len₂ = len := by rw [hdg] at hd₂; cases hd₂; rfl
    subst hlen
    have hs₂ : s₂ = (({ U with heap := s₂.heap, slotsUsed := s₂.slotsUsed } : State).setVm s₂.vm).setTop { g with pc := g.pc + len₂, stack := v.toList ++ g.stack } := by
      refine e3.trans ?_
      rw [hf₂, State.calling_eq h.top, State.setFrames_setFrames, State.setTop_of_frames _ hr', hr]
      rfl
    have hsame : U.sameButNew ({ U with heap := s₂.heap, slotsUsed := s₂.slotsUsed } : State) L mc ms := by
      refine ⟨?_, q2, q3, q4, q5, q6⟩
      obtain ⟨t, ht, -⟩ := State.frames_cons hr
      show ({ U with heap := s₂.heap, slotsUsed := s₂.slotsUsed } : State) = { U.setFrames U.frames with heap := s₂.heap, slotsUsed := s₂.slotsUsed }
      rw [State.setFrames_self ht]
    subst hg
    refine Or.inl ⟨v, ⟨(({ U with heap := s₂.heap, slotsUsed := s₂.slotsUsed } : State).setVm s₂.vm), Ls ++ L, c0 + mc, s0 + ms⟩,
      ⟨X.admits, X.cas, X.clock, X.frames, X.room, X.hears, X.method, X.code, (X.here.setHeapUsed s₂.heap s₂.slotsUsed).setVm hW'.alike, X.tail, State.WarmedH.trans X.warmed hW', X.limits, X.bytes, X.same.trans (hsame.setVm s.vm)⟩,
      ⟨g, mk, s₂, L, rfl, rfl, hqc, rfl, hL, rfl, rfl⟩, ?_⟩
    show Steps p.tables e below _ ((({ U with heap := s₂.heap, slotsUsed := s₂.slotsUsed } : State).setVm s₂.vm).setTop { g with pc := g.pc + len₂, stack := v.toList ++ g.stack })
    rw [← hs₂]
    exact hsteps
  · obtain ⟨e2, q2, q3, q4, q5, q6⟩ := id hsm
    have e3 : s₂ = ({ (U.calling g mk a).setFrames s₂.frames with heap := s₂.heap, slotsUsed := s₂.slotsUsed } : State).setVm s₂.vm := by
      have : s₂ = ({ s₂ with vm := (U.calling g mk a).vm } : State).setVm s₂.vm := rfl
      rw [e2] at this
      exact this
    have hf₂ : s₂.frames = .throwing q :: .java g :: U.frames.tail := hend
    have hW' : U.WarmedH s₂.vm := hW₂
    have hs₂ : s₂ = ((({ U with heap := s₂.heap, slotsUsed := s₂.slotsUsed } : State).setVm s₂.vm).setTop g).pushFrame (.throwing q) := by
      refine e3.trans ?_
      rw [hf₂, State.calling_eq h.top, State.setFrames_setFrames, State.pushFrame, State.frames_setTop _ hr', State.setTop_of_frames _ hr', State.setFrames_setFrames, hr]
      rfl
    have hsame : U.sameButNew ({ U with heap := s₂.heap, slotsUsed := s₂.slotsUsed } : State) L mc ms := by
      refine ⟨?_, q2, q3, q4, q5, q6⟩
      obtain ⟨t, ht, -⟩ := State.frames_cons hr
      show ({ U with heap := s₂.heap, slotsUsed := s₂.slotsUsed } : State) = { U.setFrames U.frames with heap := s₂.heap, slotsUsed := s₂.slotsUsed }
      rw [State.setFrames_self ht]
    subst hg
    refine Or.inr ⟨q, ⟨(({ U with heap := s₂.heap, slotsUsed := s₂.slotsUsed } : State).setVm s₂.vm), Ls ++ L, c0 + mc, s0 + ms⟩,
      ⟨X.admits, X.cas, X.clock, X.frames, X.room, X.hears, X.method, X.code, (X.here.setHeapUsed s₂.heap s₂.slotsUsed).setVm hW'.alike, X.tail, State.WarmedH.trans X.warmed hW', X.limits, X.bytes, X.same.trans (hsame.setVm s.vm)⟩,
      ⟨g, mk, s₂, L, E, ce, rfl, rfl, hx, hce, hcv, hcl, rfl, hL, rfl, rfl⟩, ?_⟩
    show Steps p.tables e below _ (((({ U with heap := s₂.heap, slotsUsed := s₂.slotsUsed } : State).setVm s₂.vm).setTop g).pushFrame (.throwing q))
    rw [← hs₂]
    exact hsteps
end
variable {p : Program} {l : Launch} {e : Env} {R : Room} {s : State} {m : MethodId} {args : Array Value} {below : List Frame} {meth : Method} {c : Code} {T : State} {H : Heap} {locs : List Loc} {cells slots : Nat}
theorem vx_callVX (X : Stand p l e R s m args below meth c T locs cells slots) (hexec : p.tables.exec = Jvm.exec) {own C : String} {index : Nat} {y : MethodName} {bytes : ByteArray} {maxL : Nat} {ret : Option FieldType} {hh : List (Nat × Nat × Nat × Nat)}
    (hown : s.vm.findClass own = some m.cls) (hlink : (Cond.methodLink own index y).before args s = true) (hinst : (Cond.instanceMethod y).before args s = true) (hsel : (Cond.selects C y y).before args s = true)
    (hcode : (Cond.codeWith y bytes maxL ret hh).before args s = true) (hy : y.cls ≠ "java/lang/invoke/MethodHandle" ∧ y.cls ≠ "java/lang/invoke/VarHandle")
    {W9 : Nat} {Pre : Pt → Array Value → Prop} {Post : Pt → Array Value → Option Value → Pt → Prop} {PostX : Pt → Array Value → Addr → Pt → Prop} (hK : vx_Back l R p e below s args y 3 W9 Pre Post PostX)
    {b : Addr} {cellB : Cell} (hcell : T.heap[b]? = some cellB) (hobj : cellB.vm.isStatics = false) (hcls : s.vm.findClass C = some cellB.cls)
    {g : JFrame} (hg : g.method = m) (hsize : g.locals.size = c.maxLocals) {argsL rest : List Value} (hlen : ∀ sig, parseMethodDescriptor y.desc = some sig → argsL.length = sig.parameters.length)
    (hstack : g.stack = argsL.reverse ++ .ref b :: rest) (hW : 2 * g.monitorRoom + (rest.map fun v => v.category).sum ≤ W9) (hdg : decode c.code g.pc = .ok (.invokevirtual index, 3))
    (hpre : ∀ vm₁, s.WarmedH vm₁ → Pre ⟨T.setVm vm₁, locs, cells, slots⟩ (Value.ref b :: argsL).toArray) :
    (∃ (v : Option Value) (vm₁ : Vm) (B : Pt), s.WarmedH vm₁ ∧ Stand p l e R s m args below meth c B.U B.locs B.cells B.slots ∧ Post ⟨T.setVm vm₁, locs, cells, slots⟩ (Value.ref b :: argsL).toArray v B ∧
      ∀ target, Steps p.tables e below (B.U.setTop { g with pc := g.pc + 3, stack := v.toList ++ rest }) target → Steps p.tables e below (T.setTop g) target) ∨
    (∃ (q : Addr) (vm₁ : Vm) (B : Pt), s.WarmedH vm₁ ∧ Stand p l e R s m args below meth c B.U B.locs B.cells B.slots ∧ PostX ⟨T.setVm vm₁, locs, cells, slots⟩ (Value.ref b :: argsL).toArray q B ∧
      Steps p.tables e below (T.setTop g) ((B.U.setTop { g with stack := rest }).pushFrame (.throwing q))) := by
  obtain ⟨mk, methM, hnamed, hmethM, hstM, habM⟩ := Cond.instanceMethod_spec hinst
  obtain ⟨m8, methM', cM, hn8, hmethM', -, -, -, -, -, -, hsigM⟩ := Cond.codeWith_spec hcode
  cases Option.some.inj (hn8.symm.trans hnamed)
  cases hmethM.symm.trans hmethM'
  obtain ⟨c2, r2, m2, q1, q2, q3, q4, kP, hkP, hkPi⟩ := Cond.selects_spec hsel
  cases hcls.symm.trans q1
  cases (State.methodFound?_of_named hnamed hy).symm.trans q2
  cases hnamed.symm.trans q3
  have hselP : selectMethod e.platform s.vm cellB.cls mk = .method mk := by rw [Launch.admits_selectMethod X.admits]; exact q4
  obtain ⟨vm₁, X₁, hstep₁⟩ := X.invokevirtual hexec hown hlink hnamed hmethM hstM hkP hkPi hy (a := b) (cell := cellB) hcell
    (fun z h => by rw [h] at hobj; cases hobj) hselP hmethM habM hkP hkPi (g := g) hg (argsL := argsL) (rest := rest) (hlen _ hsigM) hstack hdg
  rcases hK m meth c ⟨T.setVm vm₁, locs, cells, slots⟩ { g with stack := rest } (.invokevirtual index) mk (Value.ref b :: argsL).toArray X₁ hg hsize hdg hW (X₁.named hnamed) (hpre vm₁ X₁.warmed) with ⟨v, B, X', hpost, hsteps⟩ | ⟨q, B, X', hpost, hsteps⟩
  · exact Or.inl ⟨v, vm₁, B, X₁.warmed, X', hpost, fun target h => hstep₁ _ fun acts => by rw [doInvoke_state]; exact hsteps.trans h⟩
  · exact Or.inr ⟨q, vm₁, B, X₁.warmed, X', hpost, hstep₁ _ fun acts => by rw [doInvoke_state]; exact hsteps⟩
theorem vx_callSX (X : Stand p l e R s m args below meth c T locs cells slots) (hexec : p.tables.exec = Jvm.exec) {own : String} {index : Nat} {y : MethodName} {bytes : ByteArray} {maxL : Nat} {ret : Option FieldType} {hh : List (Nat × Nat × Nat × Nat)}
    (hown : s.vm.findClass own = some m.cls) (hlink : (Cond.methodLink own index y).before args s = true) (hstat : (Cond.static y).before args s = true) (hinit : (Cond.initialized y.cls).before args s = true)
    (hcode : (Cond.codeWith y bytes maxL ret hh).before args s = true) (hy : y.cls ≠ "java/lang/invoke/MethodHandle" ∧ y.cls ≠ "java/lang/invoke/VarHandle")
    {W9 : Nat} {Pre : Pt → Array Value → Prop} {Post : Pt → Array Value → Option Value → Pt → Prop} {PostX : Pt → Array Value → Addr → Pt → Prop} (hK : vx_Back l R p e below s args y 3 W9 Pre Post PostX)
    {g : JFrame} (hg : g.method = m) (hsize : g.locals.size = c.maxLocals) {argsL rest : List Value} (hlen : ∀ sig, parseMethodDescriptor y.desc = some sig → argsL.length = sig.parameters.length)
    (hstack : g.stack = argsL.reverse ++ rest) (hW : 2 * g.monitorRoom + (rest.map fun v => v.category).sum ≤ W9) (hdg : decode c.code g.pc = .ok (.invokestatic index, 3))
    (hpre : ∀ vm₁, s.WarmedH vm₁ → Pre ⟨T.setVm vm₁, locs, cells, slots⟩ argsL.toArray) :
    (∃ (v : Option Value) (vm₁ : Vm) (B : Pt), s.WarmedH vm₁ ∧ Stand p l e R s m args below meth c B.U B.locs B.cells B.slots ∧ Post ⟨T.setVm vm₁, locs, cells, slots⟩ argsL.toArray v B ∧
      ∀ target, Steps p.tables e below (B.U.setTop { g with pc := g.pc + 3, stack := v.toList ++ rest }) target → Steps p.tables e below (T.setTop g) target) ∨
    (∃ (q : Addr) (vm₁ : Vm) (B : Pt), s.WarmedH vm₁ ∧ Stand p l e R s m args below meth c B.U B.locs B.cells B.slots ∧ PostX ⟨T.setVm vm₁, locs, cells, slots⟩ argsL.toArray q B ∧
      Steps p.tables e below (T.setTop g) ((B.U.setTop { g with stack := rest }).pushFrame (.throwing q))) := by
  obtain ⟨mk, methM, cM, hnamed, hmethM, -, -, -, -, -, -, hsigM⟩ := Cond.codeWith_spec hcode
  have hstatic : methM.isStatic = true := Cond.static_spec hnamed hmethM hstat
  obtain ⟨kP, hkP, -⟩ := className_of_methodNamed hnamed
  have hinitP : kP.init = .initialized := Cond.initialized_spec (findClass_of_methodNamed hnamed) hkP hinit
  obtain ⟨vm₁, X₁, hstep₁⟩ := X.invokestatic hexec hown hlink hnamed hmethM hstatic hkP hinitP hy (g := g) hg (argsL := argsL) (rest := rest) (hlen _ hsigM) hstack hdg
  rcases hK m meth c ⟨T.setVm vm₁, locs, cells, slots⟩ { g with stack := rest } (.invokestatic index) mk argsL.toArray X₁ hg hsize hdg hW (X₁.named hnamed) (hpre vm₁ X₁.warmed) with ⟨v, B, X', hpost, hsteps⟩ | ⟨q, B, X', hpost, hsteps⟩
  · exact Or.inl ⟨v, vm₁, B, X₁.warmed, X', hpost, fun target h => hstep₁ _ fun acts => by rw [doInvoke_state]; exact hsteps.trans h⟩
  · exact Or.inr ⟨q, vm₁, B, X₁.warmed, X', hpost, hstep₁ _ fun acts => by rw [doInvoke_state]; exact hsteps⟩
theorem vx_callVW (X : Stand p l e R s m args below meth c T locs cells slots) (hexec : p.tables.exec = Jvm.exec) {own C : String} {index : Nat} {y : MethodName} {bytes : ByteArray} {maxL : Nat} {ret : Option FieldType} {hh : List (Nat × Nat × Nat × Nat)}
    (hown : s.vm.findClass own = some m.cls) (hlink : (Cond.methodLink own index y).before args s = true) (hinst : (Cond.instanceMethod y).before args s = true) (hsel : (Cond.selects C y y).before args s = true)
    (hcode : (Cond.codeWith y bytes maxL ret hh).before args s = true) (hy : y.cls ≠ "java/lang/invoke/MethodHandle" ∧ y.cls ≠ "java/lang/invoke/VarHandle")
    {W9 : Nat} {Pre : Pt → Array Value → Prop} {Post : Pt → Array Value → Option Value → Pt → Prop} (hK : Back l R p e below s args y 3 W9 Pre Post)
    {b : Addr} {cellB : Cell} (hcell : T.heap[b]? = some cellB) (hobj : cellB.vm.isStatics = false) (hcls : s.vm.findClass C = some cellB.cls)
    {g : JFrame} (hg : g.method = m) (hsize : g.locals.size = c.maxLocals) {argsL rest : List Value} (hlen : ∀ sig, parseMethodDescriptor y.desc = some sig → argsL.length = sig.parameters.length)
    (hstack : g.stack = argsL.reverse ++ .ref b :: rest) (hW : 2 * g.monitorRoom + (rest.map fun v => v.category).sum ≤ W9) (hdg : decode c.code g.pc = .ok (.invokevirtual index, 3))
    (hpre : ∀ vm₁, s.WarmedH vm₁ → Pre ⟨T.setVm vm₁, locs, cells, slots⟩ (Value.ref b :: argsL).toArray) :
    ∃ (v : Option Value) (vm₁ : Vm) (B : Pt), s.WarmedH vm₁ ∧ Stand p l e R s m args below meth c B.U B.locs B.cells B.slots ∧ Post ⟨T.setVm vm₁, locs, cells, slots⟩ (Value.ref b :: argsL).toArray v B ∧
      ∀ target, Steps p.tables e below (B.U.setTop { g with pc := g.pc + 3, stack := v.toList ++ rest }) target → Steps p.tables e below (T.setTop g) target := by
  obtain ⟨mk, methM, hnamed, hmethM, hstM, habM⟩ := Cond.instanceMethod_spec hinst
  obtain ⟨m8, methM', cM, hn8, hmethM', -, -, -, -, -, -, hsigM⟩ := Cond.codeWith_spec hcode
  cases Option.some.inj (hn8.symm.trans hnamed)
  cases hmethM.symm.trans hmethM'
  obtain ⟨c2, r2, m2, q1, q2, q3, q4, kP, hkP, hkPi⟩ := Cond.selects_spec hsel
  cases hcls.symm.trans q1
  cases (State.methodFound?_of_named hnamed hy).symm.trans q2
  cases hnamed.symm.trans q3
  have hselP : selectMethod e.platform s.vm cellB.cls mk = .method mk := by rw [Launch.admits_selectMethod X.admits]; exact q4
  obtain ⟨vm₁, X₁, hstep₁⟩ := X.invokevirtual hexec hown hlink hnamed hmethM hstM hkP hkPi hy (a := b) (cell := cellB) hcell
    (fun z h => by rw [h] at hobj; cases hobj) hselP hmethM habM hkP hkPi (g := g) hg (argsL := argsL) (rest := rest) (hlen _ hsigM) hstack hdg
  obtain ⟨v, B, X', hpost, hsteps⟩ := hK m meth c ⟨T.setVm vm₁, locs, cells, slots⟩ { g with stack := rest } (.invokevirtual index) mk (Value.ref b :: argsL).toArray X₁ hg hsize hdg hW (X₁.named hnamed) (hpre vm₁ X₁.warmed)
  exact ⟨v, vm₁, B, X₁.warmed, X', hpost, fun target h => hstep₁ _ fun acts => by rw [doInvoke_state]; exact hsteps.trans h⟩
abbrev vx_CVW (R : Room) (s : State) (args : Array Value) (own C : String) (index : Nat) (y : MethodName) (bytes : ByteArray) (maxL : Nat) (ret : Option FieldType) (hh : List (Nat × Nat × Nat × Nat)) (ws : List Cond) (rm : Room) (mc ms n : Nat) : Prop :=
  (rm.cells = mc ∧ rm.slots = ms ∧ rm.frames + 1 ≤ R.frames ∧ 8 + (maxL + 11) + rm.locals ≤ R.locals ∧ (∀ w ∈ ws, ∀ (a' : Array Value) (U : State), s.WarmedH U.vm → w.before a' U = true) ∧ Cond.codeWith y bytes maxL ret hh ∈ ws) ∧
  (Cond.codeWith y bytes maxL ret hh).before args s = true ∧ (Cond.initialized y.cls).before args s = true ∧ (y.cls ≠ "java/lang/invoke/MethodHandle" ∧ y.cls ≠ "java/lang/invoke/VarHandle") ∧
  (∀ sig, parseMethodDescriptor y.desc = some sig → n = sig.parameters.length) ∧ (Cond.methodLink own index y).before args s = true ∧ (Cond.instanceMethod y).before args s = true ∧ (Cond.selects C y y).before args s = true
theorem vx_cwVW {own C : String} {index maxL mc ms : Nat} {y : MethodName} {bytes : ByteArray} {ret : Option FieldType} {hh : List (Nat × Nat × Nat × Nat)} {Ts ws ws' : List Cond} {rm : Room} (n : Nat) (ht : ∀ w ∈ Ts, w.before args s = true) (hT : GoodIn Ts (wsV own index C y ws)) (hw : ws = Cond.codeWith y bytes maxL ret hh :: ws') (hrc : rm.cells = mc) (hrs : rm.slots = ms)
    (hd : y.cls = C ∧ y.cls ≠ "java/lang/invoke/MethodHandle" ∧ y.cls ≠ "java/lang/invoke/VarHandle" ∧ (parseMethodDescriptor y.desc).map (fun d => d.parameters.length) = some n) (hR : rm.frames + 1 ≤ R.frames ∧ 8 + (maxL + 11) + rm.locals ≤ R.locals) :
    vx_CVW R s args own C index y bytes maxL ret hh ws rm mc ms n := by
  obtain ⟨hC, hd⟩ := hd
  subst hC
  have ok : ∀ w ∈ wsV own index y.cls y ws, w.before args s = true := fun w h => ht w (hT w h).1
  have hG : GoodIn Ts ws := fun w h => hT w (by unfold wsV; exact List.mem_append_right _ h)
  have hc : Cond.codeWith y bytes maxL ret hh ∈ ws := by rw [hw]; exact List.mem_cons_self
  refine ⟨⟨hrc, hrs, hR.1, hR.2, pay_in ht hG, hc⟩, ht _ (hG _ hc).1, ok _ (by simp [wsV]), ⟨hd.1, hd.2.1⟩, fun sig h => ?_, ok _ (by simp [wsV]), ok _ (by simp [wsV]), ok _ (by simp [wsV])⟩
  have h2 := hd.2.2
  rw [h] at h2
  exact (Option.some.inj h2).symm
theorem vx_runVW {y : MethodName} {bytes cc : ByteArray} {maxL nL mc ms n index : Nat} {ret : Option FieldType} {hh : List (Nat × Nat × Nat × Nat)} {ws : List Cond} {rm : Room} {Pc : Array Value → State → Prop} {Qc : Array Value → State → Outcome → State → Prop} {free : Addr → Prop} {Ts : List Cond} {own C : String} {b : Addr} {As rest : List Value} {g : JFrame}
    (S : CallFix p m c cc nL s args Ts own) (hM : Met l y ws rm Pc Qc mc ms free) (cw : vx_CVW R s args own C index y bytes maxL ret hh ws rm mc ms n) (hp : PreV s H C b Pc As)
    (hg : g.method = m) (hn : As.length = n) (hsize : g.locals.size = nL) (hstack : g.stack = As.reverse ++ .ref b :: rest) (hW : 2 * g.monitorRoom + (rest.map fun v => v.category).sum ≤ 8) (hdg : decode cc g.pc = .ok (.invokevirtual index, 3)) (hf : cells + mc ≤ R.cells ∧ slots + ms ≤ R.slots) :
    va_Run p l e R s m args below meth c H locs cells slots mc ms g rest (Qc (Value.ref b :: As).toArray) free := by
  obtain ⟨⟨hrc, hrs, hfr, hlo, hws, hcw⟩, hcode, hini, hy, hlen, hl, hin, hse⟩ := cw
  have hK : Back l R p e below s args y 3 8 (PreOf R mc ms Pc) (PostOf Qc mc ms free) := va_backW (hh := hh) (bytes := bytes) (maxL := maxL) (ret := ret) hM hp.1 hrc hrs hfr hlo hws hcw (fun a' U hW => word_at hW (Or.inl (by first | rfl | simp [Cond.onTables, Cond.keeps, Cond.steady])) hini)
  obtain ⟨hx, hb, hml, ho, -⟩ := S
  obtain ⟨-, ⟨cellB, hcB, hoB, hclB⟩, hPc⟩ := hp
  intro T hT X
  obtain ⟨v, vm₁, ⟨U', l2, c2, s2⟩, hW₁, X', ⟨g', mk, t, L, e1, e2, hq, h1, hL, h2, h3⟩, st⟩ := vx_callVW X hx (C := C) (hh := hh) (bytes := bytes) (maxL := maxL) (ret := ret) ho hl hin hse hcode hy hK (by rw [hT]; exact hcB) hoB hclB hg (hsize.trans hml.symm) (argsL := As) (rest := rest) (fun sig h => hn.trans (hlen sig h)) hstack hW (by rw [hb]; exact hdg)
    (fun vm₁ hW₁ => ⟨hf.1, hf.2, hPc (T.setVm vm₁) hT hW₁⟩)
  dsimp only [Pt.U, Pt.locs, Pt.cells, Pt.slots] at X' e1 e2 h1 h2 h3 st
  subst h1; subst h2; subst h3
  exact ⟨v, (T.setVm vm₁).calling g' mk (Value.ref b :: As).toArray, t, U', L, hT, X', hL, e1, e2, hq, st⟩
section
variable {y : MethodName} {bytes cc : ByteArray} {maxL nL mc ms n index : Nat} {ret : Option FieldType} {ws : List Cond} {rm : Room} {Pc : Array Value → State → Prop} {Qc : Array Value → State → Outcome → State → Prop} {XC : String → State → State → Prop} {free : Addr → Prop} {Ts : List Cond} {own C : String} {b : Addr} {As rest : List Value} {g : JFrame}
theorem vx_runVX {hh : List (Nat × Nat × Nat × Nat)} (S : CallFix p m c cc nL s args Ts own) (hM : vx_Met l y ws rm Pc Qc XC mc ms free) (cw : vx_CVW R s args own C index y bytes maxL ret hh ws rm mc ms n) (hp : PreV s H C b Pc As)
    (hg : g.method = m) (hn : As.length = n) (hsize : g.locals.size = nL) (hstack : g.stack = As.reverse ++ .ref b :: rest) (hW : 2 * g.monitorRoom + (rest.map fun v => v.category).sum ≤ 8) (hdg : decode cc g.pc = .ok (.invokevirtual index, 3)) (hf : cells + mc ≤ R.cells ∧ slots + ms ≤ R.slots) :
    vx_Run p l e R s m args below meth c H locs cells slots mc ms g rest (Qc (Value.ref b :: As).toArray) XC free := by
  obtain ⟨⟨hrc, hrs, hfr, hlo, hws, hcw⟩, hcode, hini, hy, hlen, hl, hin, hse⟩ := cw
  have hK : vx_Back l R p e below s args y 3 8 (PreOf R mc ms Pc) (PostOf Qc mc ms free) (vx_Post XC mc ms free) := vx_backW (hh := hh) (bytes := bytes) (maxL := maxL) (ret := ret) hM hp.1 hrc hrs hfr hlo hws hcw (fun a' U hW => word_at hW (Or.inl (by first | rfl | simp [Cond.onTables, Cond.keeps, Cond.steady])) hini)
  obtain ⟨hx, hb, hml, ho, -⟩ := S
  obtain ⟨-, ⟨cellB, hcB, hoB, hclB⟩, hPc⟩ := hp
  intro T hT X
  rcases vx_callVX X hx (C := C) (hh := hh) (bytes := bytes) (maxL := maxL) (ret := ret) ho hl hin hse hcode hy hK (by rw [hT]; exact hcB) hoB hclB hg (hsize.trans hml.symm) (argsL := As) (rest := rest) (fun sig h => hn.trans (hlen sig h)) hstack hW (by rw [hb]; exact hdg)
    (fun vm₁ hW₁ => ⟨hf.1, hf.2, hPc (T.setVm vm₁) hT hW₁⟩) with ⟨v, vm₁, ⟨U', l2, c2, s2⟩, hW₁, X', ⟨g', mk, t, L, e1, e2, hq, h1, hL, h2, h3⟩, st⟩ | ⟨q, vm₁, ⟨U', l2, c2, s2⟩, hW₁, X', ⟨g', mk, t, L, E, ce, e1, e2, hq, hce, hcv, hcl, h1, hL, h2, h3⟩, st⟩
  · dsimp only [Pt.U, Pt.locs, Pt.cells, Pt.slots] at X' e1 e2 h1 h2 h3 st
    subst h1; subst h2; subst h3
    exact Or.inl ⟨v, (T.setVm vm₁).calling g' mk (Value.ref b :: As).toArray, t, U', L, hT, X', hL, e1, e2, hq, st⟩
  · dsimp only [Pt.U, Pt.locs, Pt.cells, Pt.slots] at X' e1 e2 h1 h2 h3 st hcl
    subst h1; subst h2; subst h3
    exact Or.inr ⟨q, (T.setVm vm₁).calling g' mk (Value.ref b :: As).toArray, t, U', L, E, ce, hT, X', hL, e1, e2, hq, hce, hcv, vx_cls hW₁ hcl, st⟩
theorem vx_runSX {hh : List (Nat × Nat × Nat × Nat)} (S : CallFix p m c cc nL s args Ts own) (hM : vx_Met l y ws rm Pc Qc XC mc ms free) (cw : vx_CSW R s args own index y bytes maxL ret hh ws rm mc ms n) (hp : PreS s H Pc As)
    (hg : g.method = m) (hn : As.length = n) (hsize : g.locals.size = nL) (hstack : g.stack = As.reverse ++ rest) (hW : 2 * g.monitorRoom + (rest.map fun v => v.category).sum ≤ 8) (hdg : decode cc g.pc = .ok (.invokestatic index, 3)) (hf : cells + mc ≤ R.cells ∧ slots + ms ≤ R.slots) :
    vx_Run p l e R s m args below meth c H locs cells slots mc ms g rest (Qc As.toArray) XC free := by
  obtain ⟨⟨hrc, hrs, hfr, hlo, hws, hcw⟩, hcode, hini, hy, hlen, hl, hstt⟩ := cw
  have hK : vx_Back l R p e below s args y 3 8 (PreOf R mc ms Pc) (PostOf Qc mc ms free) (vx_Post XC mc ms free) := vx_backW (hh := hh) (bytes := bytes) (maxL := maxL) (ret := ret) hM hp.1 hrc hrs hfr hlo hws hcw (fun a' U hW => word_at hW (Or.inl (by first | rfl | simp [Cond.onTables, Cond.keeps, Cond.steady])) hini)
  obtain ⟨hx, hb, hml, ho, -⟩ := S
  intro T hT X
  rcases vx_callSX X hx (hh := hh) (bytes := bytes) (maxL := maxL) (ret := ret) ho hl hstt hini hcode hy hK hg (hsize.trans hml.symm) (argsL := As) (rest := rest) (fun sig h => hn.trans (hlen sig h)) hstack hW (by rw [hb]; exact hdg)
    (fun vm₁ hW₁ => ⟨hf.1, hf.2, hp.2 (T.setVm vm₁) hT hW₁⟩) with ⟨v, vm₁, ⟨U', l2, c2, s2⟩, hW₁, X', ⟨g', mk, t, L, e1, e2, hq, h1, hL, h2, h3⟩, st⟩ | ⟨q, vm₁, ⟨U', l2, c2, s2⟩, hW₁, X', ⟨g', mk, t, L, E, ce, e1, e2, hq, hce, hcv, hcl, h1, hL, h2, h3⟩, st⟩
  · dsimp only [Pt.U, Pt.locs, Pt.cells, Pt.slots] at X' e1 e2 h1 h2 h3 st
    subst h1; subst h2; subst h3
    exact Or.inl ⟨v, (T.setVm vm₁).calling g' mk As.toArray, t, U', L, hT, X', hL, e1, e2, hq, st⟩
  · dsimp only [Pt.U, Pt.locs, Pt.cells, Pt.slots] at X' e1 e2 h1 h2 h3 st hcl
    subst h1; subst h2; subst h3
    exact Or.inr ⟨q, (T.setVm vm₁).calling g' mk As.toArray, t, U', L, E, ce, hT, X', hL, e1, e2, hq, hce, hcv, vx_cls hW₁ hcl, st⟩
end
end VXH
theorem vx_ofWH {l : Launch} {y : MethodName} {ws ws' : List Cond} {rm : Room} {Pc : Array Value → State → Prop} {Qc : Array Value → State → Outcome → State → Prop} {XC : String → State → State → Prop} {mc ms : Nat} {free : Addr → Prop} {cc : ByteArray} {maxL : Nat} {ret : Option FieldType} {hh : List (Nat × Nat × Nat × Nat)}
    (hy : plainName y.cls = true) (hw : ws = Cond.codeWith y cc maxL ret hh :: ws')
    (body : ∀ p e s m args below meth c s₁, BodyLoose p l y (headSpec ws rm) cc maxL ret e s m args below meth c s₁ → c.maxLocals = maxL → Pc args s →
      W p l e (headSpec ws rm).room s m args below meth c s.heap [] 0 0 (vx_MQ below Qc XC args s mc ms free) (entryFrame m args maxL)) : vx_Met l y ws rm Pc Qc XC mc ms free := by
  refine MetFree.of_bodyS (code := cc) (maxLocals := maxL) (ret := ret) hy ?_ ?_
  · intro args s m h hn
    obtain ⟨m9, meth, c, hn9, h1, h2, h3, h4, -, h5, h6, -⟩ := Cond.codeWith_spec (atoms_spec (ws := ws) h _ (by rw [hw]; exact List.mem_cons_self))
    cases hn.symm.trans hn9
    exact ⟨meth, c, h1, h2, h3, h4, h5, h6⟩
  · intro p e s m args below meth c s₁ B hml hP _
    have hh0 : s₁.heap = s.heap := by rw [B.state]; rfl
    obtain ⟨t, a1, o, b1, b2, b3⟩ := body p e s m args below meth c s₁ B hml hP s₁ hh0 (Stand.of_body B)
    exact ⟨t, o, a1, b1, b2, b3⟩
/-! ===== END ===== -/
end
section
/-! ===== BEGIN printed: names, fields, word lists, decode rows ===== -/
def RX0 : String := "ReservoirReed$Chain"
def TX0 : u_T := fun k => match k with
  | 0 => ("ReservoirReed$Chain", "items", "[I", true)
  | 1 => ("ReservoirReed$Chain", "positions", "[I", true)
  | 2 => ("ReservoirReed$Chain", "window", "I", false)
  | 3 => ("ReservoirReed$Chain", "start", "I", false)
  | 4 => ("ReservoirReed$Chain", "end", "I", false)
  | _ => ("ReservoirReed$Chain", "awaited", "I", false)
def tyX0 : Nat → FieldType := fun k => match k with
  | 0 => .array .int
  | 1 => .array .int
  | 2 => .int
  | 3 => .int
  | 4 => .int
  | _ => .int
abbrev wsX00 : List Cond := u_ws RX0 TX0 6
theorem nmX0 : ∀ a, a < 6 → ∀ b, b < 6 → a ≠ b → (TX0 a).2.1 ≠ (TX0 b).2.1 := by decide +kernel
theorem tyX0_ok : ∀ k, k < 6 → parseFieldDescriptor (TX0 k).2.2.1 = some (tyX0 k) := by decide +kernel
abbrev cX0_init : ByteArray := prog_2_method_1_code
def yX0_init : MethodName := ⟨RX0, "<init>", "()V"⟩
abbrev cX0_startAgain : ByteArray := prog_2_method_2_code
def yX0_startAgain : MethodName := ⟨RX0, "startAgain", "(I)V"⟩
abbrev cX0_give : ByteArray := prog_2_method_3_code
def yX0_give : MethodName := ⟨RX0, "give", "(IIII)V"⟩
abbrev cX0_append : ByteArray := prog_2_method_4_code
def yX0_append : MethodName := ⟨RX0, "append", "(III)V"⟩
abbrev cX0_length : ByteArray := prog_2_method_5_code
def yX0_length : MethodName := ⟨RX0, "length", "()I"⟩
def RX1 : String := "ReservoirReed$Distinct"
def TX1 : u_T := fun k => match k with
  | 0 => ("ReservoirReed$Distinct", "items", "[I", true)
  | 1 => ("ReservoirReed$Distinct", "times", "[I", true)
  | 2 => ("ReservoirReed$Distinct", "size", "I", false)
  | _ => ("ReservoirReed$Distinct", "held", "I", false)
def tyX1 : Nat → FieldType := fun k => match k with
  | 0 => .array .int
  | 1 => .array .int
  | 2 => .int
  | _ => .int
abbrev wsX10 : List Cond := u_ws RX1 TX1 4
theorem nmX1 : ∀ a, a < 4 → ∀ b, b < 4 → a ≠ b → (TX1 a).2.1 ≠ (TX1 b).2.1 := by decide +kernel
theorem tyX1_ok : ∀ k, k < 4 → parseFieldDescriptor (TX1 k).2.2.1 = some (tyX1 k) := by decide +kernel
abbrev cX1_init : ByteArray := prog_3_method_1_code
def yX1_init : MethodName := ⟨RX1, "<init>", "()V"⟩
abbrev cX1_startAgain : ByteArray := prog_3_method_2_code
def yX1_startAgain : MethodName := ⟨RX1, "startAgain", "(I)V"⟩
abbrev cX1_addAll : ByteArray := prog_3_method_3_code
def yX1_addAll : MethodName := ⟨RX1, "addAll", "(LReservoirReed$Distinct;)V"⟩
abbrev cX1_add : ByteArray := prog_3_method_4_code
def yX1_add : MethodName := ⟨RX1, "add", "(II)V"⟩
abbrev cX1_placeFor : ByteArray := prog_3_method_5_code
def yX1_placeFor : MethodName := ⟨RX1, "placeFor", "(I)I"⟩
abbrev cX1_hashOf : ByteArray := prog_3_method_6_code
def yX1_hashOf : MethodName := ⟨RX1, "hashOf", "(I)J"⟩
abbrev cX1_estimatedCount : ByteArray := prog_3_method_7_code
def yX1_estimatedCount : MethodName := ⟨RX1, "estimatedCount", "()J"⟩
def RX2 : String := "ReservoirReed$Group"
def TX2 : u_T := fun k => match k with
  | 0 => ("ReservoirReed$Group", "reservoir", "LReservoirReed$Reservoir;", true)
  | _ => ("ReservoirReed$Group", "weight", "I", false)
def tyX2 : Nat → FieldType := fun k => match k with
  | 0 => .object "ReservoirReed$Reservoir"
  | _ => .int
abbrev wsX20 : List Cond := u_ws RX2 TX2 2
theorem nmX2 : ∀ a, a < 2 → ∀ b, b < 2 → a ≠ b → (TX2 a).2.1 ≠ (TX2 b).2.1 := by decide +kernel
theorem tyX2_ok : ∀ k, k < 2 → parseFieldDescriptor (TX2 k).2.2.1 = some (tyX2 k) := by decide +kernel
abbrev cX2_init : ByteArray := prog_4_method_1_code
def yX2_init : MethodName := ⟨RX2, "<init>", "()V"⟩
abbrev cX2_startAgain : ByteArray := prog_4_method_2_code
def yX2_startAgain : MethodName := ⟨RX2, "startAgain", "(I)V"⟩
abbrev cX2_give : ByteArray := prog_4_method_3_code
def yX2_give : MethodName := ⟨RX2, "give", "(IIII)V"⟩
def RX3 : String := "ReservoirReed$Priorities"
def TX3 : u_T := fun k => match k with
  | 0 => ("ReservoirReed$Priorities", "items", "[I", true)
  | 1 => ("ReservoirReed$Priorities", "weights", "[I", true)
  | 2 => ("ReservoirReed$Priorities", "groups", "[I", true)
  | 3 => ("ReservoirReed$Priorities", "dice", "[I", true)
  | 4 => ("ReservoirReed$Priorities", "size", "I", false)
  | _ => ("ReservoirReed$Priorities", "held", "I", false)
def tyX3 : Nat → FieldType := fun k => match k with
  | 0 => .array .int
  | 1 => .array .int
  | 2 => .array .int
  | 3 => .array .int
  | 4 => .int
  | _ => .int
abbrev wsX30 : List Cond := u_ws RX3 TX3 6
theorem nmX3 : ∀ a, a < 6 → ∀ b, b < 6 → a ≠ b → (TX3 a).2.1 ≠ (TX3 b).2.1 := by decide +kernel
theorem tyX3_ok : ∀ k, k < 6 → parseFieldDescriptor (TX3 k).2.2.1 = some (tyX3 k) := by decide +kernel
abbrev cX3_init : ByteArray := prog_5_method_1_code
def yX3_init : MethodName := ⟨RX3, "<init>", "()V"⟩
abbrev cX3_startAgain : ByteArray := prog_5_method_2_code
def yX3_startAgain : MethodName := ⟨RX3, "startAgain", "(I)V"⟩
abbrev cX3_addAll : ByteArray := prog_5_method_3_code
def yX3_addAll : MethodName := ⟨RX3, "addAll", "(LReservoirReed$Priorities;)V"⟩
abbrev cX3_add : ByteArray := prog_5_method_4_code
def yX3_add : MethodName := ⟨RX3, "add", "(IIII)V"⟩
abbrev cX3_placeFor : ByteArray := prog_5_method_5_code
def yX3_placeFor : MethodName := ⟨RX3, "placeFor", "(II)I"⟩
abbrev cX3_isGreater : ByteArray := prog_5_method_6_code
def yX3_isGreater : MethodName := ⟨RX3, "isGreater", "(III)Z"⟩
abbrev cX3_sampled : ByteArray := prog_5_method_7_code
def yX3_sampled : MethodName := ⟨RX3, "sampled", "()I"⟩
abbrev cX3_bound : ByteArray := prog_5_method_8_code
def yX3_bound : MethodName := ⟨RX3, "bound", "()J"⟩
abbrev cX3_estimateAt : ByteArray := prog_5_method_9_code
def yX3_estimateAt : MethodName := ⟨RX3, "estimateAt", "(I)J"⟩
abbrev cX3_estimatedSum : ByteArray := prog_5_method_10_code
def yX3_estimatedSum : MethodName := ⟨RX3, "estimatedSum", "(I)J"⟩
abbrev cX3_weightSum : ByteArray := prog_5_method_11_code
def yX3_weightSum : MethodName := ⟨RX3, "weightSum", "(I)I"⟩
def RX4 : String := "ReservoirReed$Reservoir"
def TX4 : u_T := fun k => match k with
  | 0 => ("ReservoirReed$Reservoir", "items", "[I", true)
  | 1 => ("ReservoirReed$Reservoir", "positions", "[I", true)
  | 2 => ("ReservoirReed$Reservoir", "size", "I", false)
  | _ => ("ReservoirReed$Reservoir", "given", "I", false)
def tyX4 : Nat → FieldType := fun k => match k with
  | 0 => .array .int
  | 1 => .array .int
  | 2 => .int
  | _ => .int
abbrev wsX40 : List Cond := u_ws RX4 TX4 4
theorem nmX4 : ∀ a, a < 4 → ∀ b, b < 4 → a ≠ b → (TX4 a).2.1 ≠ (TX4 b).2.1 := by decide +kernel
theorem tyX4_ok : ∀ k, k < 4 → parseFieldDescriptor (TX4 k).2.2.1 = some (tyX4 k) := by decide +kernel
abbrev cX4_init : ByteArray := prog_6_method_1_code
def yX4_init : MethodName := ⟨RX4, "<init>", "()V"⟩
abbrev cX4_startAgain : ByteArray := prog_6_method_2_code
def yX4_startAgain : MethodName := ⟨RX4, "startAgain", "(I)V"⟩
abbrev cX4_give : ByteArray := prog_6_method_3_code
def yX4_give : MethodName := ⟨RX4, "give", "(III)V"⟩
abbrev cX4_filled : ByteArray := prog_6_method_4_code
def yX4_filled : MethodName := ⟨RX4, "filled", "()I"⟩
def RX5 : String := "ReservoirReed$Stream"
def TX5 : u_T := fun k => match k with
  | 0 => ("ReservoirReed$Stream", "reservoir", "LReservoirReed$Reservoir;", true)
  | 1 => ("ReservoirReed$Stream", "group0", "LReservoirReed$Group;", true)
  | 2 => ("ReservoirReed$Stream", "group1", "LReservoirReed$Group;", true)
  | 3 => ("ReservoirReed$Stream", "group2", "LReservoirReed$Group;", true)
  | 4 => ("ReservoirReed$Stream", "group3", "LReservoirReed$Group;", true)
  | 5 => ("ReservoirReed$Stream", "priorities", "LReservoirReed$Priorities;", true)
  | 6 => ("ReservoirReed$Stream", "distinct", "LReservoirReed$Distinct;", true)
  | 7 => ("ReservoirReed$Stream", "chain", "LReservoirReed$Chain;", true)
  | 8 => ("ReservoirReed$Stream", "size", "I", false)
  | 9 => ("ReservoirReed$Stream", "window", "I", false)
  | _ => ("ReservoirReed$Stream", "taken", "I", false)
def tyX5 : Nat → FieldType := fun k => match k with
  | 0 => .object "ReservoirReed$Reservoir"
  | 1 => .object "ReservoirReed$Group"
  | 2 => .object "ReservoirReed$Group"
  | 3 => .object "ReservoirReed$Group"
  | 4 => .object "ReservoirReed$Group"
  | 5 => .object "ReservoirReed$Priorities"
  | 6 => .object "ReservoirReed$Distinct"
  | 7 => .object "ReservoirReed$Chain"
  | 8 => .int
  | 9 => .int
  | _ => .int
abbrev wsX50 : List Cond := u_ws RX5 TX5 11
theorem nmX5 : ∀ a, a < 11 → ∀ b, b < 11 → a ≠ b → (TX5 a).2.1 ≠ (TX5 b).2.1 := by decide +kernel
theorem tyX5_ok : ∀ k, k < 11 → parseFieldDescriptor (TX5 k).2.2.1 = some (tyX5 k) := by decide +kernel
abbrev cX5_init : ByteArray := prog_7_method_1_code
def yX5_init : MethodName := ⟨RX5, "<init>", "()V"⟩
abbrev cX5_startAgain : ByteArray := prog_7_method_2_code
def yX5_startAgain : MethodName := ⟨RX5, "startAgain", "(II)V"⟩
abbrev cX5_makeEmpty : ByteArray := prog_7_method_3_code
def yX5_makeEmpty : MethodName := ⟨RX5, "makeEmpty", "()V"⟩
abbrev cX5_take : ByteArray := prog_7_method_4_code
def yX5_take : MethodName := ⟨RX5, "take", "(IIIII)V"⟩
abbrev cX5_groupOf : ByteArray := prog_7_method_5_code
def yX5_groupOf : MethodName := ⟨RX5, "groupOf", "(I)LReservoirReed$Group;"⟩
def RX6 : String := "ReservoirReed"
def TX6 : u_T := fun k => match k with
  | 0 => ("ReservoirReed", "stream0", "LReservoirReed$Stream;", true)
  | 1 => ("ReservoirReed", "stream1", "LReservoirReed$Stream;", true)
  | 2 => ("ReservoirReed", "mergedPriorities", "LReservoirReed$Priorities;", true)
  | 3 => ("ReservoirReed", "mergedDistinct", "LReservoirReed$Distinct;", true)
  | _ => ("ReservoirReed", "size", "I", false)
def tyX6 : Nat → FieldType := fun k => match k with
  | 0 => .object "ReservoirReed$Stream"
  | 1 => .object "ReservoirReed$Stream"
  | 2 => .object "ReservoirReed$Priorities"
  | 3 => .object "ReservoirReed$Distinct"
  | _ => .int
abbrev wsX60 : List Cond := u_ws RX6 TX6 5
theorem nmX6 : ∀ a, a < 5 → ∀ b, b < 5 → a ≠ b → (TX6 a).2.1 ≠ (TX6 b).2.1 := by decide +kernel
theorem tyX6_ok : ∀ k, k < 5 → parseFieldDescriptor (TX6 k).2.2.1 = some (tyX6 k) := by decide +kernel
abbrev cX6_init : ByteArray := prog_1_method_1_code
def yX6_init : MethodName := ⟨RX6, "<init>", "()V"⟩
abbrev cX6_begin : ByteArray := prog_1_method_2_code
def yX6_begin : MethodName := ⟨RX6, "begin", "(II)V"⟩
abbrev cX6_offer : ByteArray := prog_1_method_3_code
def yX6_offer : MethodName := ⟨RX6, "offer", "(IIIIII)I"⟩
abbrev cX6_clear : ByteArray := prog_1_method_4_code
def yX6_clear : MethodName := ⟨RX6, "clear", "(I)I"⟩
abbrev cX6_offers : ByteArray := prog_1_method_5_code
def yX6_offers : MethodName := ⟨RX6, "offers", "(I)I"⟩
abbrev cX6_exactWeight : ByteArray := prog_1_method_6_code
def yX6_exactWeight : MethodName := ⟨RX6, "exactWeight", "(II)I"⟩
abbrev cX6_reservoirSize : ByteArray := prog_1_method_7_code
def yX6_reservoirSize : MethodName := ⟨RX6, "reservoirSize", "(I)I"⟩
abbrev cX6_reservoirItem : ByteArray := prog_1_method_8_code
def yX6_reservoirItem : MethodName := ⟨RX6, "reservoirItem", "(II)I"⟩
abbrev cX6_reservoirPosition : ByteArray := prog_1_method_9_code
def yX6_reservoirPosition : MethodName := ⟨RX6, "reservoirPosition", "(II)I"⟩
abbrev cX6_groupOffers : ByteArray := prog_1_method_10_code
def yX6_groupOffers : MethodName := ⟨RX6, "groupOffers", "(II)I"⟩
abbrev cX6_groupItem : ByteArray := prog_1_method_11_code
def yX6_groupItem : MethodName := ⟨RX6, "groupItem", "(III)I"⟩
abbrev cX6_prioritySize : ByteArray := prog_1_method_12_code
def yX6_prioritySize : MethodName := ⟨RX6, "prioritySize", "(I)I"⟩
abbrev cX6_priorityItem : ByteArray := prog_1_method_13_code
def yX6_priorityItem : MethodName := ⟨RX6, "priorityItem", "(II)I"⟩
abbrev cX6_estimatedWeight : ByteArray := prog_1_method_14_code
def yX6_estimatedWeight : MethodName := ⟨RX6, "estimatedWeight", "(II)J"⟩
abbrev cX6_threshold : ByteArray := prog_1_method_15_code
def yX6_threshold : MethodName := ⟨RX6, "threshold", "(I)J"⟩
abbrev cX6_estimate : ByteArray := prog_1_method_16_code
def yX6_estimate : MethodName := ⟨RX6, "estimate", "(II)J"⟩
abbrev cX6_sampledWeight : ByteArray := prog_1_method_17_code
def yX6_sampledWeight : MethodName := ⟨RX6, "sampledWeight", "(II)I"⟩
abbrev cX6_distinctSize : ByteArray := prog_1_method_18_code
def yX6_distinctSize : MethodName := ⟨RX6, "distinctSize", "(I)I"⟩
abbrev cX6_distinctItem : ByteArray := prog_1_method_19_code
def yX6_distinctItem : MethodName := ⟨RX6, "distinctItem", "(II)I"⟩
abbrev cX6_distinctOffers : ByteArray := prog_1_method_20_code
def yX6_distinctOffers : MethodName := ⟨RX6, "distinctOffers", "(II)I"⟩
abbrev cX6_distinctEstimate : ByteArray := prog_1_method_21_code
def yX6_distinctEstimate : MethodName := ⟨RX6, "distinctEstimate", "(I)J"⟩
abbrev cX6_windowItem : ByteArray := prog_1_method_22_code
def yX6_windowItem : MethodName := ⟨RX6, "windowItem", "(I)I"⟩
abbrev cX6_windowPosition : ByteArray := prog_1_method_23_code
def yX6_windowPosition : MethodName := ⟨RX6, "windowPosition", "(I)I"⟩
abbrev cX6_chainLength : ByteArray := prog_1_method_24_code
def yX6_chainLength : MethodName := ⟨RX6, "chainLength", "(I)I"⟩
abbrev cX6_successor : ByteArray := prog_1_method_25_code
def yX6_successor : MethodName := ⟨RX6, "successor", "(I)I"⟩
abbrev cX6_startAgain : ByteArray := prog_1_method_26_code
def yX6_startAgain : MethodName := ⟨RX6, "startAgain", "(II)V"⟩
abbrev cX6_streamOf : ByteArray := prog_1_method_27_code
def yX6_streamOf : MethodName := ⟨RX6, "streamOf", "(I)LReservoirReed$Stream;"⟩
abbrev cX6_prioritiesOf : ByteArray := prog_1_method_28_code
def yX6_prioritiesOf : MethodName := ⟨RX6, "prioritiesOf", "(I)LReservoirReed$Priorities;"⟩
abbrev cX6_distinctOf : ByteArray := prog_1_method_29_code
def yX6_distinctOf : MethodName := ⟨RX6, "distinctOf", "(I)LReservoirReed$Distinct;"⟩
abbrev cX6_checkArgument : ByteArray := prog_1_method_30_code
def yX6_checkArgument : MethodName := ⟨RX6, "checkArgument", "(III)V"⟩
abbrev cX6_checkState : ByteArray := prog_1_method_31_code
def yX6_checkState : MethodName := ⟨RX6, "checkState", "(Z)V"⟩
abbrev cX6_checkPlace : ByteArray := prog_1_method_32_code
def yX6_checkPlace : MethodName := ⟨RX6, "checkPlace", "(II)V"⟩
abbrev cX6_at : ByteArray := prog_1_method_33_code
def yX6_at : MethodName := ⟨RX6, "at", "([II)I"⟩
abbrev cX6_put : ByteArray := prog_1_method_34_code
def yX6_put : MethodName := ⟨RX6, "put", "([III)V"⟩
abbrev cX6_remainder : ByteArray := prog_1_method_35_code
def yX6_remainder : MethodName := ⟨RX6, "remainder", "(II)I"⟩
abbrev cX6_quotient : ByteArray := prog_1_method_36_code
def yX6_quotient : MethodName := ⟨RX6, "quotient", "(JJ)J"⟩
abbrev cX6_insert : ByteArray := prog_1_method_37_code
def yX6_insert : MethodName := ⟨RX6, "insert", "([IIII)V"⟩
def RX7 : String := "ReservoirReedModel"
def TX7 : u_T := fun k => match k with
  | 0 => ("ReservoirReedModel", "refusal", "I", false)
  | 1 => ("ReservoirReedModel", "size", "I", false)
  | 2 => ("ReservoirReedModel", "window", "I", false)
  | 3 => ("ReservoirReedModel", "many", "[I", true)
  | 4 => ("ReservoirReedModel", "items", "[I", true)
  | 5 => ("ReservoirReedModel", "weights", "[I", true)
  | 6 => ("ReservoirReedModel", "groups", "[I", true)
  | 7 => ("ReservoirReedModel", "firsts", "[I", true)
  | 8 => ("ReservoirReedModel", "seconds", "[I", true)
  | 9 => ("ReservoirReedModel", "isNew", "[Z", true)
  | 10 => ("ReservoirReedModel", "chain", "[I", true)
  | 11 => ("ReservoirReedModel", "chained", "I", false)
  | _ => ("ReservoirReedModel", "next", "I", false)
def tyX7 : Nat → FieldType := fun k => match k with
  | 0 => .int
  | 1 => .int
  | 2 => .int
  | 3 => .array .int
  | 4 => .array .int
  | 5 => .array .int
  | 6 => .array .int
  | 7 => .array .int
  | 8 => .array .int
  | 9 => .array .boolean
  | 10 => .array .int
  | 11 => .int
  | _ => .int
abbrev wsX70 : List Cond := u_ws RX7 TX7 13
theorem nmX7 : ∀ a, a < 13 → ∀ b, b < 13 → a ≠ b → (TX7 a).2.1 ≠ (TX7 b).2.1 := by decide +kernel
theorem tyX7_ok : ∀ k, k < 13 → parseFieldDescriptor (TX7 k).2.2.1 = some (tyX7 k) := by decide +kernel
abbrev cX7_init : ByteArray := prog_9_method_1_code
def yX7_init : MethodName := ⟨RX7, "<init>", "()V"⟩
abbrev cX7_thrown : ByteArray := prog_9_method_2_code
def yX7_thrown : MethodName := ⟨RX7, "thrown", "()I"⟩
abbrev cX7_refused : ByteArray := prog_9_method_3_code
def yX7_refused : MethodName := ⟨RX7, "refused", "(I)Z"⟩
abbrev cX7_in : ByteArray := prog_9_method_4_code
def yX7_in : MethodName := ⟨RX7, "in", "(III)Z"⟩
abbrev cX7_noStream : ByteArray := prog_9_method_5_code
def yX7_noStream : MethodName := ⟨RX7, "noStream", "(II)Z"⟩
abbrev cX7_noGroup : ByteArray := prog_9_method_6_code
def yX7_noGroup : MethodName := ⟨RX7, "noGroup", "(III)Z"⟩
abbrev cX7_begin : ByteArray := prog_9_method_7_code
def yX7_begin : MethodName := ⟨RX7, "begin", "(II)V"⟩
abbrev cX7_offer : ByteArray := prog_9_method_8_code
def yX7_offer : MethodName := ⟨RX7, "offer", "(IIIIII)I"⟩
abbrev cX7_clear : ByteArray := prog_9_method_9_code
def yX7_clear : MethodName := ⟨RX7, "clear", "(I)I"⟩
abbrev cX7_offers : ByteArray := prog_9_method_10_code
def yX7_offers : MethodName := ⟨RX7, "offers", "(I)I"⟩
abbrev cX7_isOf : ByteArray := prog_9_method_11_code
def yX7_isOf : MethodName := ⟨RX7, "isOf", "(II)Z"⟩
abbrev cX7_exactWeight : ByteArray := prog_9_method_12_code
def yX7_exactWeight : MethodName := ⟨RX7, "exactWeight", "(II)I"⟩
abbrev cX7_inSlot : ByteArray := prog_9_method_13_code
def yX7_inSlot : MethodName := ⟨RX7, "inSlot", "(III)I"⟩
abbrev cX7_reservoirSize : ByteArray := prog_9_method_14_code
def yX7_reservoirSize : MethodName := ⟨RX7, "reservoirSize", "(I)I"⟩
abbrev cX7_slotOf : ByteArray := prog_9_method_15_code
def yX7_slotOf : MethodName := ⟨RX7, "slotOf", "(III)I"⟩
abbrev cX7_reservoirItem : ByteArray := prog_9_method_16_code
def yX7_reservoirItem : MethodName := ⟨RX7, "reservoirItem", "(II)I"⟩
abbrev cX7_reservoirPosition : ByteArray := prog_9_method_17_code
def yX7_reservoirPosition : MethodName := ⟨RX7, "reservoirPosition", "(II)I"⟩
abbrev cX7_groupOffers : ByteArray := prog_9_method_18_code
def yX7_groupOffers : MethodName := ⟨RX7, "groupOffers", "(II)I"⟩
abbrev cX7_groupItem : ByteArray := prog_9_method_19_code
def yX7_groupItem : MethodName := ⟨RX7, "groupItem", "(III)I"⟩
abbrev cX7_isAhead : ByteArray := prog_9_method_20_code
def yX7_isAhead : MethodName := ⟨RX7, "isAhead", "(II)Z"⟩
abbrev cX7_ranked : ByteArray := prog_9_method_21_code
def yX7_ranked : MethodName := ⟨RX7, "ranked", "(II)I"⟩
abbrev cX7_all : ByteArray := prog_9_method_22_code
def yX7_all : MethodName := ⟨RX7, "all", "(I)I"⟩
abbrev cX7_sampled : ByteArray := prog_9_method_23_code
def yX7_sampled : MethodName := ⟨RX7, "sampled", "(I)I"⟩
abbrev cX7_thresholdOf : ByteArray := prog_9_method_24_code
def yX7_thresholdOf : MethodName := ⟨RX7, "thresholdOf", "(I)J"⟩
abbrev cX7_prioritySize : ByteArray := prog_9_method_25_code
def yX7_prioritySize : MethodName := ⟨RX7, "prioritySize", "(I)I"⟩
abbrev cX7_noPlace : ByteArray := prog_9_method_26_code
def yX7_noPlace : MethodName := ⟨RX7, "noPlace", "(II)Z"⟩
abbrev cX7_priorityItem : ByteArray := prog_9_method_27_code
def yX7_priorityItem : MethodName := ⟨RX7, "priorityItem", "(II)I"⟩
abbrev cX7_estimatedWeight : ByteArray := prog_9_method_28_code
def yX7_estimatedWeight : MethodName := ⟨RX7, "estimatedWeight", "(II)J"⟩
abbrev cX7_threshold : ByteArray := prog_9_method_29_code
def yX7_threshold : MethodName := ⟨RX7, "threshold", "(I)J"⟩
abbrev cX7_estimate : ByteArray := prog_9_method_30_code
def yX7_estimate : MethodName := ⟨RX7, "estimate", "(II)J"⟩
abbrev cX7_sampledWeight : ByteArray := prog_9_method_31_code
def yX7_sampledWeight : MethodName := ⟨RX7, "sampledWeight", "(II)I"⟩
abbrev cX7_hash : ByteArray := prog_9_method_32_code
def yX7_hash : MethodName := ⟨RX7, "hash", "(I)J"⟩
abbrev cX7_distinct : ByteArray := prog_9_method_33_code
def yX7_distinct : MethodName := ⟨RX7, "distinct", "(I)I"⟩
abbrev cX7_distinctIn : ByteArray := prog_9_method_34_code
def yX7_distinctIn : MethodName := ⟨RX7, "distinctIn", "(I)I"⟩
abbrev cX7_hashed : ByteArray := prog_9_method_35_code
def yX7_hashed : MethodName := ⟨RX7, "hashed", "(I)I"⟩
abbrev cX7_distinctSize : ByteArray := prog_9_method_36_code
def yX7_distinctSize : MethodName := ⟨RX7, "distinctSize", "(I)I"⟩
abbrev cX7_distinctAt : ByteArray := prog_9_method_37_code
def yX7_distinctAt : MethodName := ⟨RX7, "distinctAt", "(II)I"⟩
abbrev cX7_distinctItem : ByteArray := prog_9_method_38_code
def yX7_distinctItem : MethodName := ⟨RX7, "distinctItem", "(II)I"⟩
abbrev cX7_distinctOffers : ByteArray := prog_9_method_39_code
def yX7_distinctOffers : MethodName := ⟨RX7, "distinctOffers", "(II)I"⟩
abbrev cX7_distinctEstimate : ByteArray := prog_9_method_40_code
def yX7_distinctEstimate : MethodName := ⟨RX7, "distinctEstimate", "(I)J"⟩
abbrev cX7_runChain : ByteArray := prog_9_method_41_code
def yX7_runChain : MethodName := ⟨RX7, "runChain", "(I)V"⟩
abbrev cX7_noWindow : ByteArray := prog_9_method_42_code
def yX7_noWindow : MethodName := ⟨RX7, "noWindow", "(I)Z"⟩
abbrev cX7_windowItem : ByteArray := prog_9_method_43_code
def yX7_windowItem : MethodName := ⟨RX7, "windowItem", "(I)I"⟩
abbrev cX7_windowPosition : ByteArray := prog_9_method_44_code
def yX7_windowPosition : MethodName := ⟨RX7, "windowPosition", "(I)I"⟩
abbrev cX7_chainLength : ByteArray := prog_9_method_45_code
def yX7_chainLength : MethodName := ⟨RX7, "chainLength", "(I)I"⟩
abbrev cX7_successor : ByteArray := prog_9_method_46_code
def yX7_successor : MethodName := ⟨RX7, "successor", "(I)I"⟩
def RJ9 : String := "java/lang/Math"
def TJ9 : u_T := fun k => match k with
  | _ => ("", "", "", false)
def tyJ9 : Nat → FieldType := fun k => match k with
  | _ => .int
abbrev wsJ90 : List Cond := u_ws RJ9 TJ9 0
theorem nmJ9 : ∀ a, a < 0 → ∀ b, b < 0 → a ≠ b → (TJ9 a).2.1 ≠ (TJ9 b).2.1 := by decide +kernel
theorem tyJ9_ok : ∀ k, k < 0 → parseFieldDescriptor (TJ9 k).2.2.1 = some (tyJ9 k) := by decide +kernel
abbrev cJ9_max_f86c9 : ByteArray := prog_14_method_66_code
def yJ9_max_f86c9 : MethodName := ⟨RJ9, "max", "(JJ)J"⟩
abbrev cJ9_min_7cf53 : ByteArray := prog_14_method_69_code
def yJ9_min_7cf53 : MethodName := ⟨RJ9, "min", "(II)I"⟩
def RJ0 : String := "java/lang/String"
def TJ0 : u_T := fun k => match k with
  | _ => ("", "", "", false)
def tyJ0 : Nat → FieldType := fun k => match k with
  | _ => .int
abbrev wsJ00 : List Cond := u_ws RJ0 TJ0 0
theorem nmJ0 : ∀ a, a < 0 → ∀ b, b < 0 → a ≠ b → (TJ0 a).2.1 ≠ (TJ0 b).2.1 := by decide +kernel
theorem tyJ0_ok : ∀ k, k < 0 → parseFieldDescriptor (TJ0 k).2.2.1 = some (tyJ0 k) := by decide +kernel
def RL : String := "ReservoirReedLaw"
abbrev cL_begin : ByteArray := method_3_code
def yL_begin : MethodName := ⟨RL, "begin", "(LReservoirReed;II)I"⟩
abbrev cL_offer : ByteArray := method_4_code
def yL_offer : MethodName := ⟨RL, "offer", "(LReservoirReed;IIIIII[J)I"⟩
abbrev cL_clear : ByteArray := method_5_code
def yL_clear : MethodName := ⟨RL, "clear", "(LReservoirReed;I[J)I"⟩
abbrev cL_offers : ByteArray := method_6_code
def yL_offers : MethodName := ⟨RL, "offers", "(LReservoirReed;I[J)I"⟩
abbrev cL_exactWeight : ByteArray := method_7_code
def yL_exactWeight : MethodName := ⟨RL, "exactWeight", "(LReservoirReed;II[J)I"⟩
abbrev cL_reservoirSize : ByteArray := method_8_code
def yL_reservoirSize : MethodName := ⟨RL, "reservoirSize", "(LReservoirReed;I[J)I"⟩
abbrev cL_reservoirItem : ByteArray := method_9_code
def yL_reservoirItem : MethodName := ⟨RL, "reservoirItem", "(LReservoirReed;II[J)I"⟩
abbrev cL_reservoirPosition : ByteArray := method_10_code
def yL_reservoirPosition : MethodName := ⟨RL, "reservoirPosition", "(LReservoirReed;II[J)I"⟩
abbrev cL_groupOffers : ByteArray := method_11_code
def yL_groupOffers : MethodName := ⟨RL, "groupOffers", "(LReservoirReed;II[J)I"⟩
abbrev cL_groupItem : ByteArray := method_12_code
def yL_groupItem : MethodName := ⟨RL, "groupItem", "(LReservoirReed;III[J)I"⟩
abbrev cL_prioritySize : ByteArray := method_13_code
def yL_prioritySize : MethodName := ⟨RL, "prioritySize", "(LReservoirReed;I[J)I"⟩
abbrev cL_priorityItem : ByteArray := method_14_code
def yL_priorityItem : MethodName := ⟨RL, "priorityItem", "(LReservoirReed;II[J)I"⟩
abbrev cL_estimatedWeight : ByteArray := method_15_code
def yL_estimatedWeight : MethodName := ⟨RL, "estimatedWeight", "(LReservoirReed;II[J)I"⟩
abbrev cL_threshold : ByteArray := method_16_code
def yL_threshold : MethodName := ⟨RL, "threshold", "(LReservoirReed;I[J)I"⟩
abbrev cL_estimate : ByteArray := method_17_code
def yL_estimate : MethodName := ⟨RL, "estimate", "(LReservoirReed;II[J)I"⟩
abbrev cL_sampledWeight : ByteArray := method_18_code
def yL_sampledWeight : MethodName := ⟨RL, "sampledWeight", "(LReservoirReed;II[J)I"⟩
abbrev cL_distinctSize : ByteArray := method_19_code
def yL_distinctSize : MethodName := ⟨RL, "distinctSize", "(LReservoirReed;I[J)I"⟩
abbrev cL_distinctItem : ByteArray := method_20_code
def yL_distinctItem : MethodName := ⟨RL, "distinctItem", "(LReservoirReed;II[J)I"⟩
abbrev cL_distinctOffers : ByteArray := method_21_code
def yL_distinctOffers : MethodName := ⟨RL, "distinctOffers", "(LReservoirReed;II[J)I"⟩
abbrev cL_distinctEstimate : ByteArray := method_22_code
def yL_distinctEstimate : MethodName := ⟨RL, "distinctEstimate", "(LReservoirReed;I[J)I"⟩
abbrev cL_windowItem : ByteArray := method_23_code
def yL_windowItem : MethodName := ⟨RL, "windowItem", "(LReservoirReed;I[J)I"⟩
abbrev cL_windowPosition : ByteArray := method_24_code
def yL_windowPosition : MethodName := ⟨RL, "windowPosition", "(LReservoirReed;I[J)I"⟩
abbrev cL_chainLength : ByteArray := method_25_code
def yL_chainLength : MethodName := ⟨RL, "chainLength", "(LReservoirReed;I[J)I"⟩
abbrev cL_successor : ByteArray := method_26_code
def yL_successor : MethodName := ⟨RL, "successor", "(LReservoirReed;I[J)I"⟩
abbrev cL_law : ByteArray := code
def yL_law : MethodName := ⟨RL, "law", "([I)Z"⟩
def wsX0_init : List Cond := .code yX0_init cX0_init 1 none :: ([.methodLink RX0 3 objectInit, .instanceMethod objectInit, .code objectInit ⟨#[0xb1]⟩ 1 none, .arrayClass .int, .fieldLink RX0 9 "ReservoirReed$Chain" "items" "[I", .fieldLink RX0 15 "ReservoirReed$Chain" "positions" "[I"] ++ wsX00)
def wsX0_startAgain : List Cond := .code yX0_startAgain cX0_startAgain 2 none :: ([.fieldLink RX0 18 "ReservoirReed$Chain" "window" "I", .fieldLink RX0 22 "ReservoirReed$Chain" "start" "I", .fieldLink RX0 25 "ReservoirReed$Chain" "end" "I", .fieldLink RX0 28 "ReservoirReed$Chain" "awaited" "I"] ++ wsX00)
def wsX6_remainder : List Cond := .code yX6_remainder cX6_remainder 2 (some .int) :: ([])
def wsX6_put : List Cond := .code yX6_put cX6_put 3 none :: ([])
def wsX0_append : List Cond := .code yX0_append cX0_append 4 none :: ([.fieldLink RX0 9 "ReservoirReed$Chain" "items" "[I", .fieldLink RX0 25 "ReservoirReed$Chain" "end" "I", .fieldLink RX0 15 "ReservoirReed$Chain" "positions" "[I", .fieldLink RX0 18 "ReservoirReed$Chain" "window" "I", .fieldLink RX0 28 "ReservoirReed$Chain" "awaited" "I", .static yX6_put, .initialized RX6, .code yX6_put cX6_put 3 none, .static yX6_remainder, .code yX6_remainder cX6_remainder 2 (some .int)] ++ wsX00)
def wsX6_at : List Cond := .code yX6_at cX6_at 2 (some .int) :: ([])
def wsX0_give : List Cond := .code yX0_give cX0_give 5 none :: ([.fieldLink RX0 18 "ReservoirReed$Chain" "window" "I", .methodLink RX0 31 Lib.Math.min.name, .static Lib.Math.min.name, .initialized "java/lang/Math", .code Lib.Math.min.name Lib.Math.min.code 2 (some .int), .fieldLink RX0 22 "ReservoirReed$Chain" "start" "I", .fieldLink RX0 25 "ReservoirReed$Chain" "end" "I", .fieldLink RX0 28 "ReservoirReed$Chain" "awaited" "I", .fieldLink RX0 15 "ReservoirReed$Chain" "positions" "[I", .static yX6_remainder, .initialized RX6, .code yX6_remainder cX6_remainder 2 (some .int), .methodLink RX0 40 yX0_append, .instanceMethod yX0_append, .selects RX0 yX0_append yX0_append, .initialized RX0, .code yX0_append cX0_append 4 none, .fieldLink RX0 9 "ReservoirReed$Chain" "items" "[I", .static yX6_put, .code yX6_put cX6_put 3 none, .static yX6_at, .code yX6_at cX6_at 2 (some .int)] ++ wsX00)
def wsX0_length : List Cond := .code yX0_length cX0_length 1 (some .int) :: ([.fieldLink RX0 25 "ReservoirReed$Chain" "end" "I", .fieldLink RX0 22 "ReservoirReed$Chain" "start" "I"] ++ wsX00)
def wsX1_init : List Cond := .code yX1_init cX1_init 1 none :: ([.methodLink RX1 3 objectInit, .instanceMethod objectInit, .code objectInit ⟨#[0xb1]⟩ 1 none, .arrayClass .int, .fieldLink RX1 9 "ReservoirReed$Distinct" "items" "[I", .fieldLink RX1 15 "ReservoirReed$Distinct" "times" "[I"] ++ wsX10)
def wsX1_startAgain : List Cond := .code yX1_startAgain cX1_startAgain 2 none :: ([.fieldLink RX1 18 "ReservoirReed$Distinct" "size" "I", .fieldLink RX1 22 "ReservoirReed$Distinct" "held" "I"] ++ wsX10)
def wsX1_hashOf : List Cond := .code yX1_hashOf cX1_hashOf 1 (some .long) :: ([.constantLong RX1 55 (2654435761), .constantLong RX1 57 (4294967296)])
def wsX1_placeFor : List Cond := .code yX1_placeFor cX1_placeFor 5 (some .int) :: ([.fieldLink RX1 22 "ReservoirReed$Distinct" "held" "I", .fieldLink RX1 9 "ReservoirReed$Distinct" "items" "[I", .methodLink RX1 51 yX1_hashOf, .static yX1_hashOf, .initialized RX1, .code yX1_hashOf cX1_hashOf 1 (some .long), .constantLong RX1 55 (2654435761), .constantLong RX1 57 (4294967296), .static yX6_at, .initialized RX6, .code yX6_at cX6_at 2 (some .int)] ++ wsX10)
def wsX6_insert : List Cond := .code yX6_insert cX6_insert 5 none :: ([.methodLink RX6 90 yX6_at, .static yX6_at, .initialized RX6, .code yX6_at cX6_at 2 (some .int), .methodLink RX6 193 yX6_put, .static yX6_put, .code yX6_put cX6_put 3 none])
def wsX1_add_r1 : List Cond := [Cond.fieldLink RX1 22 "ReservoirReed$Distinct" "held" "I", Cond.fieldLink RX1 9 "ReservoirReed$Distinct" "items" "[I", Cond.fieldLink RX1 15 "ReservoirReed$Distinct" "times" "[I", Cond.fieldLink RX1 18 "ReservoirReed$Distinct" "size" "I", Cond.methodLink RX1 41 Lib.Math.min.name, Cond.static Lib.Math.min.name, Cond.initialized "java/lang/Math", Cond.code Lib.Math.min.name Lib.Math.min.code 2 (some .int), Cond.methodLink RX1 33 yX1_placeFor, Cond.instanceMethod yX1_placeFor, Cond.selects RX1 yX1_placeFor yX1_placeFor, Cond.initialized RX1, Cond.code yX1_placeFor cX1_placeFor 5 (some .int), Cond.methodLink RX1 51 yX1_hashOf, Cond.static yX1_hashOf, Cond.code yX1_hashOf cX1_hashOf 1 (some .long), Cond.constantLong RX1 55 (2654435761), Cond.constantLong RX1 57 (4294967296), Cond.static yX6_at, Cond.initialized RX6, Cond.code yX6_at cX6_at 2 (some .int), Cond.static yX6_put, Cond.code yX6_put cX6_put 3 none, Cond.static yX6_insert]
def wsX1_add_r2 : List Cond := [Cond.code yX6_insert cX6_insert 5 none, Cond.methodLink RX6 90 yX6_at, Cond.methodLink RX6 193 yX6_put]
def wsX1_add : List Cond := .code yX1_add cX1_add 4 none :: ((wsX1_add_r1 ++ wsX1_add_r2) ++ wsX10)
def wsX1_addAll_r1 : List Cond := [Cond.fieldLink RX1 22 "ReservoirReed$Distinct" "held" "I", Cond.fieldLink RX1 9 "ReservoirReed$Distinct" "items" "[I", Cond.fieldLink RX1 15 "ReservoirReed$Distinct" "times" "[I", Cond.static yX6_at, Cond.initialized RX6, Cond.code yX6_at cX6_at 2 (some .int), Cond.methodLink RX1 29 yX1_add, Cond.instanceMethod yX1_add, Cond.selects RX1 yX1_add yX1_add, Cond.initialized RX1, Cond.code yX1_add cX1_add 4 none, Cond.fieldLink RX1 18 "ReservoirReed$Distinct" "size" "I", Cond.methodLink RX1 41 Lib.Math.min.name, Cond.static Lib.Math.min.name, Cond.initialized "java/lang/Math", Cond.code Lib.Math.min.name Lib.Math.min.code 2 (some .int), Cond.methodLink RX1 33 yX1_placeFor, Cond.instanceMethod yX1_placeFor, Cond.selects RX1 yX1_placeFor yX1_placeFor, Cond.code yX1_placeFor cX1_placeFor 5 (some .int), Cond.methodLink RX1 51 yX1_hashOf, Cond.static yX1_hashOf, Cond.code yX1_hashOf cX1_hashOf 1 (some .long), Cond.constantLong RX1 55 (2654435761)]
def wsX1_addAll_r2 : List Cond := [Cond.constantLong RX1 57 (4294967296), Cond.static yX6_put, Cond.code yX6_put cX6_put 3 none, Cond.static yX6_insert, Cond.code yX6_insert cX6_insert 5 none, Cond.methodLink RX6 90 yX6_at, Cond.methodLink RX6 193 yX6_put]
def wsX1_addAll : List Cond := .code yX1_addAll cX1_addAll 4 none :: ((wsX1_addAll_r1 ++ wsX1_addAll_r2) ++ wsX10)
def wsX6_quotient : List Cond := .code yX6_quotient cX6_quotient 4 (some .long) :: ([])
def wsX1_estimatedCount : List Cond := .code yX1_estimatedCount cX1_estimatedCount 1 (some .long) :: ([.fieldLink RX1 22 "ReservoirReed$Distinct" "held" "I", .fieldLink RX1 18 "ReservoirReed$Distinct" "size" "I", .constantLong RX1 57 (4294967296), .fieldLink RX1 9 "ReservoirReed$Distinct" "items" "[I", .static yX6_at, .initialized RX6, .code yX6_at cX6_at 2 (some .int), .methodLink RX1 51 yX1_hashOf, .static yX1_hashOf, .initialized RX1, .code yX1_hashOf cX1_hashOf 1 (some .long), .constantLong RX1 55 (2654435761), .static yX6_quotient, .code yX6_quotient cX6_quotient 4 (some .long)] ++ wsX10)
def wsX4_init : List Cond := .code yX4_init cX4_init 1 none :: ([.methodLink RX4 3 objectInit, .instanceMethod objectInit, .code objectInit ⟨#[0xb1]⟩ 1 none, .arrayClass .int, .fieldLink RX4 9 "ReservoirReed$Reservoir" "items" "[I", .fieldLink RX4 15 "ReservoirReed$Reservoir" "positions" "[I"] ++ wsX40)
def wsX2_init : List Cond := .code yX2_init cX2_init 1 none :: ([.methodLink RX2 1 objectInit, .instanceMethod objectInit, .code objectInit ⟨#[0xb1]⟩ 1 none, .classLink RX2 7 RX4, .instantiable RX4 4, .initialized RX4, .fieldLink RX2 10 "ReservoirReed$Group" "reservoir" "LReservoirReed$Reservoir;", .instanceMethod yX4_init, .code yX4_init cX4_init 1 none, .methodLink RX4 3 objectInit, .arrayClass .int, .fieldLink RX4 9 "ReservoirReed$Reservoir" "items" "[I", .fieldLink RX4 15 "ReservoirReed$Reservoir" "positions" "[I"] ++ wsX40 ++ wsX20)
def wsX4_startAgain : List Cond := .code yX4_startAgain cX4_startAgain 2 none :: ([.fieldLink RX4 18 "ReservoirReed$Reservoir" "size" "I", .fieldLink RX4 22 "ReservoirReed$Reservoir" "given" "I"] ++ wsX40)
def wsX2_startAgain : List Cond := .code yX2_startAgain cX2_startAgain 2 none :: ([.fieldLink RX2 16 "ReservoirReed$Group" "weight" "I", .fieldLink RX2 10 "ReservoirReed$Group" "reservoir" "LReservoirReed$Reservoir;", .methodLink RX2 20 yX4_startAgain, .instanceMethod yX4_startAgain, .selects RX4 yX4_startAgain yX4_startAgain, .initialized RX4, .code yX4_startAgain cX4_startAgain 2 none, .fieldLink RX4 18 "ReservoirReed$Reservoir" "size" "I", .fieldLink RX4 22 "ReservoirReed$Reservoir" "given" "I"] ++ wsX20 ++ wsX40)
def wsX4_give : List Cond := .code yX4_give cX4_give 5 none :: ([.fieldLink RX4 22 "ReservoirReed$Reservoir" "given" "I", .fieldLink RX4 18 "ReservoirReed$Reservoir" "size" "I", .fieldLink RX4 9 "ReservoirReed$Reservoir" "items" "[I", .fieldLink RX4 15 "ReservoirReed$Reservoir" "positions" "[I", .static yX6_remainder, .initialized RX6, .code yX6_remainder cX6_remainder 2 (some .int), .static yX6_put, .code yX6_put cX6_put 3 none] ++ wsX40)
def wsX2_give : List Cond := .code yX2_give cX2_give 5 none :: ([.fieldLink RX2 16 "ReservoirReed$Group" "weight" "I", .fieldLink RX2 10 "ReservoirReed$Group" "reservoir" "LReservoirReed$Reservoir;", .methodLink RX2 24 yX4_give, .instanceMethod yX4_give, .selects RX4 yX4_give yX4_give, .initialized RX4, .code yX4_give cX4_give 5 none, .fieldLink RX4 22 "ReservoirReed$Reservoir" "given" "I", .fieldLink RX4 18 "ReservoirReed$Reservoir" "size" "I", .fieldLink RX4 9 "ReservoirReed$Reservoir" "items" "[I", .fieldLink RX4 15 "ReservoirReed$Reservoir" "positions" "[I", .static yX6_remainder, .initialized RX6, .code yX6_remainder cX6_remainder 2 (some .int), .static yX6_put, .code yX6_put cX6_put 3 none] ++ wsX20 ++ wsX40)
def wsX3_init : List Cond := .code yX3_init cX3_init 1 none :: ([.methodLink RX3 3 objectInit, .instanceMethod objectInit, .code objectInit ⟨#[0xb1]⟩ 1 none, .arrayClass .int, .fieldLink RX3 9 "ReservoirReed$Priorities" "items" "[I", .fieldLink RX3 15 "ReservoirReed$Priorities" "weights" "[I", .fieldLink RX3 18 "ReservoirReed$Priorities" "groups" "[I", .fieldLink RX3 21 "ReservoirReed$Priorities" "dice" "[I"] ++ wsX30)
def wsX3_startAgain : List Cond := .code yX3_startAgain cX3_startAgain 2 none :: ([.fieldLink RX3 24 "ReservoirReed$Priorities" "size" "I", .fieldLink RX3 28 "ReservoirReed$Priorities" "held" "I"] ++ wsX30)
def wsX3_isGreater : List Cond := .code yX3_isGreater cX3_isGreater 4 (some .boolean) :: ([.fieldLink RX3 21 "ReservoirReed$Priorities" "dice" "[I", .fieldLink RX3 15 "ReservoirReed$Priorities" "weights" "[I", .static yX6_at, .initialized RX6, .code yX6_at cX6_at 2 (some .int)] ++ wsX30)
def wsX3_placeFor : List Cond := .code yX3_placeFor cX3_placeFor 4 (some .int) :: ([.fieldLink RX3 28 "ReservoirReed$Priorities" "held" "I", .methodLink RX3 52 yX3_isGreater, .instanceMethod yX3_isGreater, .selects RX3 yX3_isGreater yX3_isGreater, .initialized RX3, .code yX3_isGreater cX3_isGreater 4 (some .boolean), .fieldLink RX3 21 "ReservoirReed$Priorities" "dice" "[I", .fieldLink RX3 15 "ReservoirReed$Priorities" "weights" "[I", .static yX6_at, .initialized RX6, .code yX6_at cX6_at 2 (some .int)] ++ wsX30)
def wsX3_add_r1 : List Cond := [Cond.fieldLink RX3 24 "ReservoirReed$Priorities" "size" "I", Cond.fieldLink RX3 28 "ReservoirReed$Priorities" "held" "I", Cond.methodLink RX3 43 Lib.Math.min.name, Cond.static Lib.Math.min.name, Cond.initialized "java/lang/Math", Cond.code Lib.Math.min.name Lib.Math.min.code 2 (some .int), Cond.fieldLink RX3 9 "ReservoirReed$Priorities" "items" "[I", Cond.fieldLink RX3 15 "ReservoirReed$Priorities" "weights" "[I", Cond.fieldLink RX3 18 "ReservoirReed$Priorities" "groups" "[I", Cond.fieldLink RX3 21 "ReservoirReed$Priorities" "dice" "[I", Cond.methodLink RX3 39 yX3_placeFor, Cond.instanceMethod yX3_placeFor, Cond.selects RX3 yX3_placeFor yX3_placeFor, Cond.initialized RX3, Cond.code yX3_placeFor cX3_placeFor 4 (some .int), Cond.methodLink RX3 52 yX3_isGreater, Cond.instanceMethod yX3_isGreater, Cond.selects RX3 yX3_isGreater yX3_isGreater, Cond.code yX3_isGreater cX3_isGreater 4 (some .boolean), Cond.static yX6_at, Cond.initialized RX6, Cond.code yX6_at cX6_at 2 (some .int), Cond.static yX6_insert, Cond.code yX6_insert cX6_insert 5 none]
def wsX3_add_r2 : List Cond := [Cond.methodLink RX6 90 yX6_at, Cond.methodLink RX6 193 yX6_put, Cond.static yX6_put, Cond.code yX6_put cX6_put 3 none]
def wsX3_add : List Cond := .code yX3_add cX3_add 6 none :: ((wsX3_add_r1 ++ wsX3_add_r2) ++ wsX30)
def wsX3_addAll_r1 : List Cond := [Cond.fieldLink RX3 28 "ReservoirReed$Priorities" "held" "I", Cond.fieldLink RX3 9 "ReservoirReed$Priorities" "items" "[I", Cond.fieldLink RX3 15 "ReservoirReed$Priorities" "weights" "[I", Cond.fieldLink RX3 18 "ReservoirReed$Priorities" "groups" "[I", Cond.fieldLink RX3 21 "ReservoirReed$Priorities" "dice" "[I", Cond.static yX6_at, Cond.initialized RX6, Cond.code yX6_at cX6_at 2 (some .int), Cond.methodLink RX3 35 yX3_add, Cond.instanceMethod yX3_add, Cond.selects RX3 yX3_add yX3_add, Cond.initialized RX3, Cond.code yX3_add cX3_add 6 none, Cond.fieldLink RX3 24 "ReservoirReed$Priorities" "size" "I", Cond.methodLink RX3 43 Lib.Math.min.name, Cond.static Lib.Math.min.name, Cond.initialized "java/lang/Math", Cond.code Lib.Math.min.name Lib.Math.min.code 2 (some .int), Cond.methodLink RX3 39 yX3_placeFor, Cond.instanceMethod yX3_placeFor, Cond.selects RX3 yX3_placeFor yX3_placeFor, Cond.code yX3_placeFor cX3_placeFor 4 (some .int), Cond.methodLink RX3 52 yX3_isGreater, Cond.instanceMethod yX3_isGreater]
def wsX3_addAll_r2 : List Cond := [Cond.selects RX3 yX3_isGreater yX3_isGreater, Cond.code yX3_isGreater cX3_isGreater 4 (some .boolean), Cond.static yX6_insert, Cond.code yX6_insert cX6_insert 5 none, Cond.methodLink RX6 90 yX6_at, Cond.methodLink RX6 193 yX6_put, Cond.static yX6_put, Cond.code yX6_put cX6_put 3 none]
def wsX3_addAll : List Cond := .code yX3_addAll cX3_addAll 4 none :: ((wsX3_addAll_r1 ++ wsX3_addAll_r2) ++ wsX30)
def wsX3_sampled : List Cond := .code yX3_sampled cX3_sampled 1 (some .int) :: ([.fieldLink RX3 28 "ReservoirReed$Priorities" "held" "I", .fieldLink RX3 24 "ReservoirReed$Priorities" "size" "I", .methodLink RX3 43 Lib.Math.min.name, .static Lib.Math.min.name, .initialized "java/lang/Math", .code Lib.Math.min.name Lib.Math.min.code 2 (some .int)] ++ wsX30)
def wsX3_bound : List Cond := .code yX3_bound cX3_bound 3 (some .long) :: ([.fieldLink RX3 28 "ReservoirReed$Priorities" "held" "I", .fieldLink RX3 24 "ReservoirReed$Priorities" "size" "I", .fieldLink RX3 15 "ReservoirReed$Priorities" "weights" "[I", .fieldLink RX3 21 "ReservoirReed$Priorities" "dice" "[I", .static yX6_at, .initialized RX6, .code yX6_at cX6_at 2 (some .int), .static yX6_quotient, .code yX6_quotient cX6_quotient 4 (some .long)] ++ wsX30)
def wsX3_estimateAt : List Cond := .code yX3_estimateAt cX3_estimateAt 2 (some .long) :: ([.fieldLink RX3 15 "ReservoirReed$Priorities" "weights" "[I", .methodLink RX3 64 Lib.MathLoose.max_long.x, .static Lib.MathLoose.max_long.x, .initialized "java/lang/Math", .code Lib.MathLoose.max_long.x Lib.MathLoose.max_long.code 4 (some .long), .static yX6_at, .initialized RX6, .code yX6_at cX6_at 2 (some .int), .methodLink RX3 60 yX3_bound, .instanceMethod yX3_bound, .selects RX3 yX3_bound yX3_bound, .initialized RX3, .code yX3_bound cX3_bound 3 (some .long), .fieldLink RX3 28 "ReservoirReed$Priorities" "held" "I", .fieldLink RX3 24 "ReservoirReed$Priorities" "size" "I", .fieldLink RX3 21 "ReservoirReed$Priorities" "dice" "[I", .static yX6_quotient, .code yX6_quotient cX6_quotient 4 (some .long)] ++ wsX30)
def wsX3_estimatedSum_r1 : List Cond := [Cond.fieldLink RX3 18 "ReservoirReed$Priorities" "groups" "[I", Cond.methodLink RX3 67 yX3_sampled, Cond.instanceMethod yX3_sampled, Cond.selects RX3 yX3_sampled yX3_sampled, Cond.initialized RX3, Cond.code yX3_sampled cX3_sampled 1 (some .int), Cond.fieldLink RX3 28 "ReservoirReed$Priorities" "held" "I", Cond.fieldLink RX3 24 "ReservoirReed$Priorities" "size" "I", Cond.methodLink RX3 43 Lib.Math.min.name, Cond.static Lib.Math.min.name, Cond.initialized "java/lang/Math", Cond.code Lib.Math.min.name Lib.Math.min.code 2 (some .int), Cond.static yX6_at, Cond.initialized RX6, Cond.code yX6_at cX6_at 2 (some .int), Cond.methodLink RX3 71 yX3_estimateAt, Cond.instanceMethod yX3_estimateAt, Cond.selects RX3 yX3_estimateAt yX3_estimateAt, Cond.code yX3_estimateAt cX3_estimateAt 2 (some .long), Cond.fieldLink RX3 15 "ReservoirReed$Priorities" "weights" "[I", Cond.methodLink RX3 64 Lib.MathLoose.max_long.x, Cond.static Lib.MathLoose.max_long.x, Cond.code Lib.MathLoose.max_long.x Lib.MathLoose.max_long.code 4 (some .long), Cond.methodLink RX3 60 yX3_bound]
def wsX3_estimatedSum_r2 : List Cond := [Cond.instanceMethod yX3_bound, Cond.selects RX3 yX3_bound yX3_bound, Cond.code yX3_bound cX3_bound 3 (some .long), Cond.fieldLink RX3 21 "ReservoirReed$Priorities" "dice" "[I", Cond.static yX6_quotient, Cond.code yX6_quotient cX6_quotient 4 (some .long)]
def wsX3_estimatedSum : List Cond := .code yX3_estimatedSum cX3_estimatedSum 6 (some .long) :: ((wsX3_estimatedSum_r1 ++ wsX3_estimatedSum_r2) ++ wsX30)
def wsX3_weightSum : List Cond := .code yX3_weightSum cX3_weightSum 5 (some .int) :: ([.fieldLink RX3 18 "ReservoirReed$Priorities" "groups" "[I", .fieldLink RX3 15 "ReservoirReed$Priorities" "weights" "[I", .methodLink RX3 67 yX3_sampled, .instanceMethod yX3_sampled, .selects RX3 yX3_sampled yX3_sampled, .initialized RX3, .code yX3_sampled cX3_sampled 1 (some .int), .fieldLink RX3 28 "ReservoirReed$Priorities" "held" "I", .fieldLink RX3 24 "ReservoirReed$Priorities" "size" "I", .methodLink RX3 43 Lib.Math.min.name, .static Lib.Math.min.name, .initialized "java/lang/Math", .code Lib.Math.min.name Lib.Math.min.code 2 (some .int), .static yX6_at, .initialized RX6, .code yX6_at cX6_at 2 (some .int)] ++ wsX30)
def wsX4_filled : List Cond := .code yX4_filled cX4_filled 1 (some .int) :: ([.fieldLink RX4 22 "ReservoirReed$Reservoir" "given" "I", .fieldLink RX4 18 "ReservoirReed$Reservoir" "size" "I", .methodLink RX4 33 Lib.Math.min.name, .static Lib.Math.min.name, .initialized "java/lang/Math", .code Lib.Math.min.name Lib.Math.min.code 2 (some .int)] ++ wsX40)
def wsX5_init_r1 : List Cond := [Cond.methodLink RX5 1 objectInit, Cond.instanceMethod objectInit, Cond.code objectInit ⟨#[0xb1]⟩ 1 none, Cond.classLink RX5 7 RX4, Cond.instantiable RX4 4, Cond.initialized RX4, Cond.fieldLink RX5 10 "ReservoirReed$Stream" "reservoir" "LReservoirReed$Reservoir;", Cond.classLink RX5 16 RX2, Cond.instantiable RX2 2, Cond.initialized RX2, Cond.fieldLink RX5 19 "ReservoirReed$Stream" "group0" "LReservoirReed$Group;", Cond.fieldLink RX5 23 "ReservoirReed$Stream" "group1" "LReservoirReed$Group;", Cond.fieldLink RX5 26 "ReservoirReed$Stream" "group2" "LReservoirReed$Group;", Cond.fieldLink RX5 29 "ReservoirReed$Stream" "group3" "LReservoirReed$Group;", Cond.classLink RX5 32 RX3, Cond.instantiable RX3 6, Cond.initialized RX3, Cond.fieldLink RX5 35 "ReservoirReed$Stream" "priorities" "LReservoirReed$Priorities;", Cond.classLink RX5 39 RX1, Cond.instantiable RX1 4, Cond.initialized RX1, Cond.fieldLink RX5 42 "ReservoirReed$Stream" "distinct" "LReservoirReed$Distinct;", Cond.classLink RX5 46 RX0, Cond.instantiable RX0 6]
def wsX5_init_r2 : List Cond := [Cond.initialized RX0, Cond.fieldLink RX5 49 "ReservoirReed$Stream" "chain" "LReservoirReed$Chain;", Cond.instanceMethod yX4_init, Cond.code yX4_init cX4_init 1 none, Cond.methodLink RX4 3 objectInit, Cond.arrayClass .int, Cond.fieldLink RX4 9 "ReservoirReed$Reservoir" "items" "[I", Cond.fieldLink RX4 15 "ReservoirReed$Reservoir" "positions" "[I", Cond.instanceMethod yX2_init, Cond.code yX2_init cX2_init 1 none, Cond.methodLink RX2 1 objectInit, Cond.classLink RX2 7 RX4, Cond.fieldLink RX2 10 "ReservoirReed$Group" "reservoir" "LReservoirReed$Reservoir;", Cond.instanceMethod yX3_init, Cond.code yX3_init cX3_init 1 none, Cond.methodLink RX3 3 objectInit, Cond.fieldLink RX3 9 "ReservoirReed$Priorities" "items" "[I", Cond.fieldLink RX3 15 "ReservoirReed$Priorities" "weights" "[I", Cond.fieldLink RX3 18 "ReservoirReed$Priorities" "groups" "[I", Cond.fieldLink RX3 21 "ReservoirReed$Priorities" "dice" "[I", Cond.instanceMethod yX1_init, Cond.code yX1_init cX1_init 1 none, Cond.methodLink RX1 3 objectInit, Cond.fieldLink RX1 9 "ReservoirReed$Distinct" "items" "[I"]
def wsX5_init_r3 : List Cond := [Cond.fieldLink RX1 15 "ReservoirReed$Distinct" "times" "[I", Cond.instanceMethod yX0_init, Cond.code yX0_init cX0_init 1 none, Cond.methodLink RX0 3 objectInit, Cond.fieldLink RX0 9 "ReservoirReed$Chain" "items" "[I", Cond.fieldLink RX0 15 "ReservoirReed$Chain" "positions" "[I"]
def wsX5_init : List Cond := .code yX5_init cX5_init 1 none :: ((wsX5_init_r1 ++ (wsX5_init_r2 ++ wsX5_init_r3)) ++ wsX40 ++ wsX50 ++ wsX20 ++ wsX30 ++ wsX10 ++ wsX00)
def wsX5_makeEmpty_r1 : List Cond := [Cond.fieldLink RX5 63 "ReservoirReed$Stream" "taken" "I", Cond.fieldLink RX5 10 "ReservoirReed$Stream" "reservoir" "LReservoirReed$Reservoir;", Cond.fieldLink RX5 53 "ReservoirReed$Stream" "size" "I", Cond.fieldLink RX5 19 "ReservoirReed$Stream" "group0" "LReservoirReed$Group;", Cond.fieldLink RX5 23 "ReservoirReed$Stream" "group1" "LReservoirReed$Group;", Cond.fieldLink RX5 26 "ReservoirReed$Stream" "group2" "LReservoirReed$Group;", Cond.fieldLink RX5 29 "ReservoirReed$Stream" "group3" "LReservoirReed$Group;", Cond.fieldLink RX5 35 "ReservoirReed$Stream" "priorities" "LReservoirReed$Priorities;", Cond.fieldLink RX5 42 "ReservoirReed$Stream" "distinct" "LReservoirReed$Distinct;", Cond.fieldLink RX5 49 "ReservoirReed$Stream" "chain" "LReservoirReed$Chain;", Cond.fieldLink RX5 57 "ReservoirReed$Stream" "window" "I", Cond.methodLink RX5 66 yX4_startAgain, Cond.instanceMethod yX4_startAgain, Cond.selects RX4 yX4_startAgain yX4_startAgain, Cond.initialized RX4, Cond.code yX4_startAgain cX4_startAgain 2 none, Cond.fieldLink RX4 18 "ReservoirReed$Reservoir" "size" "I", Cond.fieldLink RX4 22 "ReservoirReed$Reservoir" "given" "I", Cond.methodLink RX5 70 yX2_startAgain, Cond.instanceMethod yX2_startAgain, Cond.selects RX2 yX2_startAgain yX2_startAgain, Cond.initialized RX2, Cond.code yX2_startAgain cX2_startAgain 2 none, Cond.fieldLink RX2 16 "ReservoirReed$Group" "weight" "I"]
def wsX5_makeEmpty_r2 : List Cond := [Cond.fieldLink RX2 10 "ReservoirReed$Group" "reservoir" "LReservoirReed$Reservoir;", Cond.methodLink RX2 20 yX4_startAgain, Cond.methodLink RX5 71 yX3_startAgain, Cond.instanceMethod yX3_startAgain, Cond.selects RX3 yX3_startAgain yX3_startAgain, Cond.initialized RX3, Cond.code yX3_startAgain cX3_startAgain 2 none, Cond.fieldLink RX3 24 "ReservoirReed$Priorities" "size" "I", Cond.fieldLink RX3 28 "ReservoirReed$Priorities" "held" "I", Cond.methodLink RX5 72 yX1_startAgain, Cond.instanceMethod yX1_startAgain, Cond.selects RX1 yX1_startAgain yX1_startAgain, Cond.initialized RX1, Cond.code yX1_startAgain cX1_startAgain 2 none, Cond.fieldLink RX1 18 "ReservoirReed$Distinct" "size" "I", Cond.fieldLink RX1 22 "ReservoirReed$Distinct" "held" "I", Cond.methodLink RX5 73 yX0_startAgain, Cond.instanceMethod yX0_startAgain, Cond.selects RX0 yX0_startAgain yX0_startAgain, Cond.initialized RX0, Cond.code yX0_startAgain cX0_startAgain 2 none, Cond.fieldLink RX0 18 "ReservoirReed$Chain" "window" "I", Cond.fieldLink RX0 22 "ReservoirReed$Chain" "start" "I", Cond.fieldLink RX0 25 "ReservoirReed$Chain" "end" "I"]
def wsX5_makeEmpty_r3 : List Cond := [Cond.fieldLink RX0 28 "ReservoirReed$Chain" "awaited" "I"]
def wsX5_makeEmpty : List Cond := .code yX5_makeEmpty cX5_makeEmpty 1 none :: ((wsX5_makeEmpty_r1 ++ (wsX5_makeEmpty_r2 ++ wsX5_makeEmpty_r3)) ++ wsX50 ++ wsX40 ++ wsX20 ++ wsX30 ++ wsX10 ++ wsX00)
def wsX5_startAgain_r1 : List Cond := [Cond.fieldLink RX5 53 "ReservoirReed$Stream" "size" "I", Cond.fieldLink RX5 57 "ReservoirReed$Stream" "window" "I", Cond.methodLink RX5 60 yX5_makeEmpty, Cond.instanceMethod yX5_makeEmpty, Cond.selects RX5 yX5_makeEmpty yX5_makeEmpty, Cond.initialized RX5, Cond.code yX5_makeEmpty cX5_makeEmpty 1 none, Cond.fieldLink RX5 63 "ReservoirReed$Stream" "taken" "I", Cond.fieldLink RX5 10 "ReservoirReed$Stream" "reservoir" "LReservoirReed$Reservoir;", Cond.fieldLink RX5 19 "ReservoirReed$Stream" "group0" "LReservoirReed$Group;", Cond.fieldLink RX5 23 "ReservoirReed$Stream" "group1" "LReservoirReed$Group;", Cond.fieldLink RX5 26 "ReservoirReed$Stream" "group2" "LReservoirReed$Group;", Cond.fieldLink RX5 29 "ReservoirReed$Stream" "group3" "LReservoirReed$Group;", Cond.fieldLink RX5 35 "ReservoirReed$Stream" "priorities" "LReservoirReed$Priorities;", Cond.fieldLink RX5 42 "ReservoirReed$Stream" "distinct" "LReservoirReed$Distinct;", Cond.fieldLink RX5 49 "ReservoirReed$Stream" "chain" "LReservoirReed$Chain;", Cond.methodLink RX5 66 yX4_startAgain, Cond.instanceMethod yX4_startAgain, Cond.selects RX4 yX4_startAgain yX4_startAgain, Cond.initialized RX4, Cond.code yX4_startAgain cX4_startAgain 2 none, Cond.fieldLink RX4 18 "ReservoirReed$Reservoir" "size" "I", Cond.fieldLink RX4 22 "ReservoirReed$Reservoir" "given" "I", Cond.methodLink RX5 70 yX2_startAgain]
def wsX5_startAgain_r2 : List Cond := [Cond.instanceMethod yX2_startAgain, Cond.selects RX2 yX2_startAgain yX2_startAgain, Cond.initialized RX2, Cond.code yX2_startAgain cX2_startAgain 2 none, Cond.fieldLink RX2 16 "ReservoirReed$Group" "weight" "I", Cond.fieldLink RX2 10 "ReservoirReed$Group" "reservoir" "LReservoirReed$Reservoir;", Cond.methodLink RX2 20 yX4_startAgain, Cond.methodLink RX5 71 yX3_startAgain, Cond.instanceMethod yX3_startAgain, Cond.selects RX3 yX3_startAgain yX3_startAgain, Cond.initialized RX3, Cond.code yX3_startAgain cX3_startAgain 2 none, Cond.fieldLink RX3 24 "ReservoirReed$Priorities" "size" "I", Cond.fieldLink RX3 28 "ReservoirReed$Priorities" "held" "I", Cond.methodLink RX5 72 yX1_startAgain, Cond.instanceMethod yX1_startAgain, Cond.selects RX1 yX1_startAgain yX1_startAgain, Cond.initialized RX1, Cond.code yX1_startAgain cX1_startAgain 2 none, Cond.fieldLink RX1 18 "ReservoirReed$Distinct" "size" "I", Cond.fieldLink RX1 22 "ReservoirReed$Distinct" "held" "I", Cond.methodLink RX5 73 yX0_startAgain, Cond.instanceMethod yX0_startAgain, Cond.selects RX0 yX0_startAgain yX0_startAgain]
def wsX5_startAgain_r3 : List Cond := [Cond.initialized RX0, Cond.code yX0_startAgain cX0_startAgain 2 none, Cond.fieldLink RX0 18 "ReservoirReed$Chain" "window" "I", Cond.fieldLink RX0 22 "ReservoirReed$Chain" "start" "I", Cond.fieldLink RX0 25 "ReservoirReed$Chain" "end" "I", Cond.fieldLink RX0 28 "ReservoirReed$Chain" "awaited" "I"]
def wsX5_startAgain : List Cond := .code yX5_startAgain cX5_startAgain 3 none :: ((wsX5_startAgain_r1 ++ (wsX5_startAgain_r2 ++ wsX5_startAgain_r3)) ++ wsX50 ++ wsX40 ++ wsX20 ++ wsX30 ++ wsX10 ++ wsX00)
def wsX5_groupOf : List Cond := .code yX5_groupOf cX5_groupOf 2 (some (.object "ReservoirReed$Group")) :: ([.fieldLink RX5 19 "ReservoirReed$Stream" "group0" "LReservoirReed$Group;", .fieldLink RX5 23 "ReservoirReed$Stream" "group1" "LReservoirReed$Group;", .fieldLink RX5 26 "ReservoirReed$Stream" "group2" "LReservoirReed$Group;", .fieldLink RX5 29 "ReservoirReed$Stream" "group3" "LReservoirReed$Group;"] ++ wsX50)
def wsX5_take_r1 : List Cond := [Cond.fieldLink RX5 63 "ReservoirReed$Stream" "taken" "I", Cond.fieldLink RX5 10 "ReservoirReed$Stream" "reservoir" "LReservoirReed$Reservoir;", Cond.fieldLink RX5 35 "ReservoirReed$Stream" "priorities" "LReservoirReed$Priorities;", Cond.fieldLink RX5 42 "ReservoirReed$Stream" "distinct" "LReservoirReed$Distinct;", Cond.fieldLink RX5 49 "ReservoirReed$Stream" "chain" "LReservoirReed$Chain;", Cond.methodLink RX5 74 yX4_give, Cond.instanceMethod yX4_give, Cond.selects RX4 yX4_give yX4_give, Cond.initialized RX4, Cond.code yX4_give cX4_give 5 none, Cond.fieldLink RX4 22 "ReservoirReed$Reservoir" "given" "I", Cond.fieldLink RX4 18 "ReservoirReed$Reservoir" "size" "I", Cond.fieldLink RX4 9 "ReservoirReed$Reservoir" "items" "[I", Cond.fieldLink RX4 15 "ReservoirReed$Reservoir" "positions" "[I", Cond.static yX6_remainder, Cond.initialized RX6, Cond.code yX6_remainder cX6_remainder 2 (some .int), Cond.static yX6_put, Cond.code yX6_put cX6_put 3 none, Cond.methodLink RX5 78 yX5_groupOf, Cond.instanceMethod yX5_groupOf, Cond.selects RX5 yX5_groupOf yX5_groupOf, Cond.initialized RX5, Cond.code yX5_groupOf cX5_groupOf 2 (some (.object "ReservoirReed$Group"))]
def wsX5_take_r2 : List Cond := [Cond.fieldLink RX5 19 "ReservoirReed$Stream" "group0" "LReservoirReed$Group;", Cond.fieldLink RX5 23 "ReservoirReed$Stream" "group1" "LReservoirReed$Group;", Cond.fieldLink RX5 26 "ReservoirReed$Stream" "group2" "LReservoirReed$Group;", Cond.fieldLink RX5 29 "ReservoirReed$Stream" "group3" "LReservoirReed$Group;", Cond.methodLink RX5 82 yX2_give, Cond.instanceMethod yX2_give, Cond.selects RX2 yX2_give yX2_give, Cond.initialized RX2, Cond.code yX2_give cX2_give 5 none, Cond.fieldLink RX2 16 "ReservoirReed$Group" "weight" "I", Cond.fieldLink RX2 10 "ReservoirReed$Group" "reservoir" "LReservoirReed$Reservoir;", Cond.methodLink RX2 24 yX4_give, Cond.methodLink RX5 85 yX3_add, Cond.instanceMethod yX3_add, Cond.selects RX3 yX3_add yX3_add, Cond.initialized RX3, Cond.code yX3_add cX3_add 6 none, Cond.fieldLink RX3 24 "ReservoirReed$Priorities" "size" "I", Cond.fieldLink RX3 28 "ReservoirReed$Priorities" "held" "I", Cond.methodLink RX3 43 Lib.Math.min.name, Cond.static Lib.Math.min.name, Cond.initialized "java/lang/Math", Cond.code Lib.Math.min.name Lib.Math.min.code 2 (some .int), Cond.fieldLink RX3 9 "ReservoirReed$Priorities" "items" "[I"]
def wsX5_take_r3 : List Cond := [Cond.fieldLink RX3 15 "ReservoirReed$Priorities" "weights" "[I", Cond.fieldLink RX3 18 "ReservoirReed$Priorities" "groups" "[I", Cond.fieldLink RX3 21 "ReservoirReed$Priorities" "dice" "[I", Cond.methodLink RX3 39 yX3_placeFor, Cond.instanceMethod yX3_placeFor, Cond.selects RX3 yX3_placeFor yX3_placeFor, Cond.code yX3_placeFor cX3_placeFor 4 (some .int), Cond.methodLink RX3 52 yX3_isGreater, Cond.instanceMethod yX3_isGreater, Cond.selects RX3 yX3_isGreater yX3_isGreater, Cond.code yX3_isGreater cX3_isGreater 4 (some .boolean), Cond.static yX6_at, Cond.code yX6_at cX6_at 2 (some .int), Cond.static yX6_insert, Cond.code yX6_insert cX6_insert 5 none, Cond.methodLink RX6 90 yX6_at, Cond.methodLink RX6 193 yX6_put, Cond.methodLink RX5 88 yX1_add, Cond.instanceMethod yX1_add, Cond.selects RX1 yX1_add yX1_add, Cond.initialized RX1, Cond.code yX1_add cX1_add 4 none, Cond.fieldLink RX1 22 "ReservoirReed$Distinct" "held" "I", Cond.fieldLink RX1 9 "ReservoirReed$Distinct" "items" "[I"]
def wsX5_take_r4 : List Cond := [Cond.fieldLink RX1 15 "ReservoirReed$Distinct" "times" "[I", Cond.fieldLink RX1 18 "ReservoirReed$Distinct" "size" "I", Cond.methodLink RX1 41 Lib.Math.min.name, Cond.methodLink RX1 33 yX1_placeFor, Cond.instanceMethod yX1_placeFor, Cond.selects RX1 yX1_placeFor yX1_placeFor, Cond.code yX1_placeFor cX1_placeFor 5 (some .int), Cond.methodLink RX1 51 yX1_hashOf, Cond.static yX1_hashOf, Cond.code yX1_hashOf cX1_hashOf 1 (some .long), Cond.constantLong RX1 55 (2654435761), Cond.constantLong RX1 57 (4294967296), Cond.methodLink RX5 91 yX0_give, Cond.instanceMethod yX0_give, Cond.selects RX0 yX0_give yX0_give, Cond.initialized RX0, Cond.code yX0_give cX0_give 5 none, Cond.fieldLink RX0 18 "ReservoirReed$Chain" "window" "I", Cond.methodLink RX0 31 Lib.Math.min.name, Cond.fieldLink RX0 22 "ReservoirReed$Chain" "start" "I", Cond.fieldLink RX0 25 "ReservoirReed$Chain" "end" "I", Cond.fieldLink RX0 28 "ReservoirReed$Chain" "awaited" "I", Cond.fieldLink RX0 15 "ReservoirReed$Chain" "positions" "[I", Cond.methodLink RX0 40 yX0_append]
def wsX5_take_r5 : List Cond := [Cond.instanceMethod yX0_append, Cond.selects RX0 yX0_append yX0_append, Cond.code yX0_append cX0_append 4 none, Cond.fieldLink RX0 9 "ReservoirReed$Chain" "items" "[I"]
def wsX5_take : List Cond := .code yX5_take cX5_take 6 none :: ((wsX5_take_r1 ++ (wsX5_take_r2 ++ (wsX5_take_r3 ++ (wsX5_take_r4 ++ wsX5_take_r5)))) ++ wsX50 ++ wsX40 ++ wsX20 ++ wsX30 ++ wsX10 ++ wsX00)
def wsX6_startAgain_r1 : List Cond := [Cond.fieldLink RX6 155 "ReservoirReed" "size" "I", Cond.fieldLink RX6 10 "ReservoirReed" "stream0" "LReservoirReed$Stream;", Cond.fieldLink RX6 16 "ReservoirReed" "stream1" "LReservoirReed$Stream;", Cond.methodLink RX6 158 yX5_startAgain, Cond.instanceMethod yX5_startAgain, Cond.selects RX5 yX5_startAgain yX5_startAgain, Cond.initialized RX5, Cond.code yX5_startAgain cX5_startAgain 3 none, Cond.fieldLink RX5 53 "ReservoirReed$Stream" "size" "I", Cond.fieldLink RX5 57 "ReservoirReed$Stream" "window" "I", Cond.methodLink RX5 60 yX5_makeEmpty, Cond.instanceMethod yX5_makeEmpty, Cond.selects RX5 yX5_makeEmpty yX5_makeEmpty, Cond.code yX5_makeEmpty cX5_makeEmpty 1 none, Cond.fieldLink RX5 63 "ReservoirReed$Stream" "taken" "I", Cond.fieldLink RX5 10 "ReservoirReed$Stream" "reservoir" "LReservoirReed$Reservoir;", Cond.fieldLink RX5 19 "ReservoirReed$Stream" "group0" "LReservoirReed$Group;", Cond.fieldLink RX5 23 "ReservoirReed$Stream" "group1" "LReservoirReed$Group;", Cond.fieldLink RX5 26 "ReservoirReed$Stream" "group2" "LReservoirReed$Group;", Cond.fieldLink RX5 29 "ReservoirReed$Stream" "group3" "LReservoirReed$Group;", Cond.fieldLink RX5 35 "ReservoirReed$Stream" "priorities" "LReservoirReed$Priorities;", Cond.fieldLink RX5 42 "ReservoirReed$Stream" "distinct" "LReservoirReed$Distinct;", Cond.fieldLink RX5 49 "ReservoirReed$Stream" "chain" "LReservoirReed$Chain;", Cond.methodLink RX5 66 yX4_startAgain]
def wsX6_startAgain_r2 : List Cond := [Cond.instanceMethod yX4_startAgain, Cond.selects RX4 yX4_startAgain yX4_startAgain, Cond.initialized RX4, Cond.code yX4_startAgain cX4_startAgain 2 none, Cond.fieldLink RX4 18 "ReservoirReed$Reservoir" "size" "I", Cond.fieldLink RX4 22 "ReservoirReed$Reservoir" "given" "I", Cond.methodLink RX5 70 yX2_startAgain, Cond.instanceMethod yX2_startAgain, Cond.selects RX2 yX2_startAgain yX2_startAgain, Cond.initialized RX2, Cond.code yX2_startAgain cX2_startAgain 2 none, Cond.fieldLink RX2 16 "ReservoirReed$Group" "weight" "I", Cond.fieldLink RX2 10 "ReservoirReed$Group" "reservoir" "LReservoirReed$Reservoir;", Cond.methodLink RX2 20 yX4_startAgain, Cond.methodLink RX5 71 yX3_startAgain, Cond.instanceMethod yX3_startAgain, Cond.selects RX3 yX3_startAgain yX3_startAgain, Cond.initialized RX3, Cond.code yX3_startAgain cX3_startAgain 2 none, Cond.fieldLink RX3 24 "ReservoirReed$Priorities" "size" "I", Cond.fieldLink RX3 28 "ReservoirReed$Priorities" "held" "I", Cond.methodLink RX5 72 yX1_startAgain, Cond.instanceMethod yX1_startAgain, Cond.selects RX1 yX1_startAgain yX1_startAgain]
def wsX6_startAgain_r3 : List Cond := [Cond.initialized RX1, Cond.code yX1_startAgain cX1_startAgain 2 none, Cond.fieldLink RX1 18 "ReservoirReed$Distinct" "size" "I", Cond.fieldLink RX1 22 "ReservoirReed$Distinct" "held" "I", Cond.methodLink RX5 73 yX0_startAgain, Cond.instanceMethod yX0_startAgain, Cond.selects RX0 yX0_startAgain yX0_startAgain, Cond.initialized RX0, Cond.code yX0_startAgain cX0_startAgain 2 none, Cond.fieldLink RX0 18 "ReservoirReed$Chain" "window" "I", Cond.fieldLink RX0 22 "ReservoirReed$Chain" "start" "I", Cond.fieldLink RX0 25 "ReservoirReed$Chain" "end" "I", Cond.fieldLink RX0 28 "ReservoirReed$Chain" "awaited" "I"]
def wsX6_startAgain : List Cond := .code yX6_startAgain cX6_startAgain 3 none :: ((wsX6_startAgain_r1 ++ (wsX6_startAgain_r2 ++ wsX6_startAgain_r3)) ++ wsX60 ++ wsX50 ++ wsX40 ++ wsX20 ++ wsX30 ++ wsX10 ++ wsX00)
def wsX6_init_r1 : List Cond := [Cond.methodLink RX6 1 objectInit, Cond.instanceMethod objectInit, Cond.code objectInit ⟨#[0xb1]⟩ 1 none, Cond.classLink RX6 7 RX5, Cond.instantiable RX5 11, Cond.initialized RX5, Cond.fieldLink RX6 10 "ReservoirReed" "stream0" "LReservoirReed$Stream;", Cond.fieldLink RX6 16 "ReservoirReed" "stream1" "LReservoirReed$Stream;", Cond.classLink RX6 19 RX3, Cond.instantiable RX3 6, Cond.initialized RX3, Cond.fieldLink RX6 22 "ReservoirReed" "mergedPriorities" "LReservoirReed$Priorities;", Cond.classLink RX6 26 RX1, Cond.instantiable RX1 4, Cond.initialized RX1, Cond.fieldLink RX6 29 "ReservoirReed" "mergedDistinct" "LReservoirReed$Distinct;", Cond.instanceMethod yX5_init, Cond.code yX5_init cX5_init 1 none, Cond.methodLink RX5 1 objectInit, Cond.classLink RX5 7 RX4, Cond.instantiable RX4 4, Cond.initialized RX4, Cond.fieldLink RX5 10 "ReservoirReed$Stream" "reservoir" "LReservoirReed$Reservoir;", Cond.classLink RX5 16 RX2]
def wsX6_init_r2 : List Cond := [Cond.instantiable RX2 2, Cond.initialized RX2, Cond.fieldLink RX5 19 "ReservoirReed$Stream" "group0" "LReservoirReed$Group;", Cond.fieldLink RX5 23 "ReservoirReed$Stream" "group1" "LReservoirReed$Group;", Cond.fieldLink RX5 26 "ReservoirReed$Stream" "group2" "LReservoirReed$Group;", Cond.fieldLink RX5 29 "ReservoirReed$Stream" "group3" "LReservoirReed$Group;", Cond.classLink RX5 32 RX3, Cond.fieldLink RX5 35 "ReservoirReed$Stream" "priorities" "LReservoirReed$Priorities;", Cond.classLink RX5 39 RX1, Cond.fieldLink RX5 42 "ReservoirReed$Stream" "distinct" "LReservoirReed$Distinct;", Cond.classLink RX5 46 RX0, Cond.instantiable RX0 6, Cond.initialized RX0, Cond.fieldLink RX5 49 "ReservoirReed$Stream" "chain" "LReservoirReed$Chain;", Cond.instanceMethod yX4_init, Cond.code yX4_init cX4_init 1 none, Cond.methodLink RX4 3 objectInit, Cond.arrayClass .int, Cond.fieldLink RX4 9 "ReservoirReed$Reservoir" "items" "[I", Cond.fieldLink RX4 15 "ReservoirReed$Reservoir" "positions" "[I", Cond.instanceMethod yX2_init, Cond.code yX2_init cX2_init 1 none, Cond.methodLink RX2 1 objectInit, Cond.classLink RX2 7 RX4]
def wsX6_init_r3 : List Cond := [Cond.fieldLink RX2 10 "ReservoirReed$Group" "reservoir" "LReservoirReed$Reservoir;", Cond.instanceMethod yX3_init, Cond.code yX3_init cX3_init 1 none, Cond.methodLink RX3 3 objectInit, Cond.fieldLink RX3 9 "ReservoirReed$Priorities" "items" "[I", Cond.fieldLink RX3 15 "ReservoirReed$Priorities" "weights" "[I", Cond.fieldLink RX3 18 "ReservoirReed$Priorities" "groups" "[I", Cond.fieldLink RX3 21 "ReservoirReed$Priorities" "dice" "[I", Cond.instanceMethod yX1_init, Cond.code yX1_init cX1_init 1 none, Cond.methodLink RX1 3 objectInit, Cond.fieldLink RX1 9 "ReservoirReed$Distinct" "items" "[I", Cond.fieldLink RX1 15 "ReservoirReed$Distinct" "times" "[I", Cond.instanceMethod yX0_init, Cond.code yX0_init cX0_init 1 none, Cond.methodLink RX0 3 objectInit, Cond.fieldLink RX0 9 "ReservoirReed$Chain" "items" "[I", Cond.fieldLink RX0 15 "ReservoirReed$Chain" "positions" "[I", Cond.methodLink RX6 33 yX6_startAgain, Cond.instanceMethod yX6_startAgain, Cond.selects RX6 yX6_startAgain yX6_startAgain, Cond.initialized RX6, Cond.code yX6_startAgain cX6_startAgain 3 none, Cond.fieldLink RX6 155 "ReservoirReed" "size" "I"]
def wsX6_init_r4 : List Cond := [Cond.methodLink RX6 158 yX5_startAgain, Cond.instanceMethod yX5_startAgain, Cond.selects RX5 yX5_startAgain yX5_startAgain, Cond.code yX5_startAgain cX5_startAgain 3 none, Cond.fieldLink RX5 53 "ReservoirReed$Stream" "size" "I", Cond.fieldLink RX5 57 "ReservoirReed$Stream" "window" "I", Cond.methodLink RX5 60 yX5_makeEmpty, Cond.instanceMethod yX5_makeEmpty, Cond.selects RX5 yX5_makeEmpty yX5_makeEmpty, Cond.code yX5_makeEmpty cX5_makeEmpty 1 none, Cond.fieldLink RX5 63 "ReservoirReed$Stream" "taken" "I", Cond.methodLink RX5 66 yX4_startAgain, Cond.instanceMethod yX4_startAgain, Cond.selects RX4 yX4_startAgain yX4_startAgain, Cond.code yX4_startAgain cX4_startAgain 2 none, Cond.fieldLink RX4 18 "ReservoirReed$Reservoir" "size" "I", Cond.fieldLink RX4 22 "ReservoirReed$Reservoir" "given" "I", Cond.methodLink RX5 70 yX2_startAgain, Cond.instanceMethod yX2_startAgain, Cond.selects RX2 yX2_startAgain yX2_startAgain, Cond.code yX2_startAgain cX2_startAgain 2 none, Cond.fieldLink RX2 16 "ReservoirReed$Group" "weight" "I", Cond.methodLink RX2 20 yX4_startAgain, Cond.methodLink RX5 71 yX3_startAgain]
def wsX6_init_r5 : List Cond := [Cond.instanceMethod yX3_startAgain, Cond.selects RX3 yX3_startAgain yX3_startAgain, Cond.code yX3_startAgain cX3_startAgain 2 none, Cond.fieldLink RX3 24 "ReservoirReed$Priorities" "size" "I", Cond.fieldLink RX3 28 "ReservoirReed$Priorities" "held" "I", Cond.methodLink RX5 72 yX1_startAgain, Cond.instanceMethod yX1_startAgain, Cond.selects RX1 yX1_startAgain yX1_startAgain, Cond.code yX1_startAgain cX1_startAgain 2 none, Cond.fieldLink RX1 18 "ReservoirReed$Distinct" "size" "I", Cond.fieldLink RX1 22 "ReservoirReed$Distinct" "held" "I", Cond.methodLink RX5 73 yX0_startAgain, Cond.instanceMethod yX0_startAgain, Cond.selects RX0 yX0_startAgain yX0_startAgain, Cond.code yX0_startAgain cX0_startAgain 2 none, Cond.fieldLink RX0 18 "ReservoirReed$Chain" "window" "I", Cond.fieldLink RX0 22 "ReservoirReed$Chain" "start" "I", Cond.fieldLink RX0 25 "ReservoirReed$Chain" "end" "I", Cond.fieldLink RX0 28 "ReservoirReed$Chain" "awaited" "I"]
def wsX6_init : List Cond := .code yX6_init cX6_init 1 none :: ((wsX6_init_r1 ++ (wsX6_init_r2 ++ (wsX6_init_r3 ++ (wsX6_init_r4 ++ wsX6_init_r5)))) ++ wsX50 ++ wsX60 ++ wsX30 ++ wsX10 ++ wsX40 ++ wsX20 ++ wsX00)
def wsX6_checkArgument : List Cond := .code yX6_checkArgument cX6_checkArgument 3 none :: ([.classLink RX6 176 "java/lang/IllegalArgumentException", .initialized "java/lang/IllegalArgumentException"] ++ (vx_atS RX6 180 "java/lang/IllegalArgumentException" ["java/lang/RuntimeException", "java/lang/Exception"]).filter goodWord)
def wsX6_begin_r1 : List Cond := [Cond.methodLink RX6 37 yX6_checkArgument, Cond.static yX6_checkArgument, Cond.initialized RX6, Cond.code yX6_checkArgument cX6_checkArgument 3 none, Cond.classLink RX6 176 "java/lang/IllegalArgumentException", Cond.initialized "java/lang/IllegalArgumentException", Cond.methodLink RX6 33 yX6_startAgain, Cond.instanceMethod yX6_startAgain, Cond.selects RX6 yX6_startAgain yX6_startAgain, Cond.code yX6_startAgain cX6_startAgain 3 none, Cond.fieldLink RX6 155 "ReservoirReed" "size" "I", Cond.fieldLink RX6 10 "ReservoirReed" "stream0" "LReservoirReed$Stream;", Cond.fieldLink RX6 16 "ReservoirReed" "stream1" "LReservoirReed$Stream;", Cond.methodLink RX6 158 yX5_startAgain, Cond.instanceMethod yX5_startAgain, Cond.selects RX5 yX5_startAgain yX5_startAgain, Cond.initialized RX5, Cond.code yX5_startAgain cX5_startAgain 3 none, Cond.fieldLink RX5 53 "ReservoirReed$Stream" "size" "I", Cond.fieldLink RX5 57 "ReservoirReed$Stream" "window" "I", Cond.methodLink RX5 60 yX5_makeEmpty, Cond.instanceMethod yX5_makeEmpty, Cond.selects RX5 yX5_makeEmpty yX5_makeEmpty, Cond.code yX5_makeEmpty cX5_makeEmpty 1 none]
def wsX6_begin_r2 : List Cond := [Cond.fieldLink RX5 63 "ReservoirReed$Stream" "taken" "I", Cond.fieldLink RX5 10 "ReservoirReed$Stream" "reservoir" "LReservoirReed$Reservoir;", Cond.fieldLink RX5 19 "ReservoirReed$Stream" "group0" "LReservoirReed$Group;", Cond.fieldLink RX5 23 "ReservoirReed$Stream" "group1" "LReservoirReed$Group;", Cond.fieldLink RX5 26 "ReservoirReed$Stream" "group2" "LReservoirReed$Group;", Cond.fieldLink RX5 29 "ReservoirReed$Stream" "group3" "LReservoirReed$Group;", Cond.fieldLink RX5 35 "ReservoirReed$Stream" "priorities" "LReservoirReed$Priorities;", Cond.fieldLink RX5 42 "ReservoirReed$Stream" "distinct" "LReservoirReed$Distinct;", Cond.fieldLink RX5 49 "ReservoirReed$Stream" "chain" "LReservoirReed$Chain;", Cond.methodLink RX5 66 yX4_startAgain, Cond.instanceMethod yX4_startAgain, Cond.selects RX4 yX4_startAgain yX4_startAgain, Cond.initialized RX4, Cond.code yX4_startAgain cX4_startAgain 2 none, Cond.fieldLink RX4 18 "ReservoirReed$Reservoir" "size" "I", Cond.fieldLink RX4 22 "ReservoirReed$Reservoir" "given" "I", Cond.methodLink RX5 70 yX2_startAgain, Cond.instanceMethod yX2_startAgain, Cond.selects RX2 yX2_startAgain yX2_startAgain, Cond.initialized RX2, Cond.code yX2_startAgain cX2_startAgain 2 none, Cond.fieldLink RX2 16 "ReservoirReed$Group" "weight" "I", Cond.fieldLink RX2 10 "ReservoirReed$Group" "reservoir" "LReservoirReed$Reservoir;", Cond.methodLink RX2 20 yX4_startAgain]
def wsX6_begin_r3 : List Cond := [Cond.methodLink RX5 71 yX3_startAgain, Cond.instanceMethod yX3_startAgain, Cond.selects RX3 yX3_startAgain yX3_startAgain, Cond.initialized RX3, Cond.code yX3_startAgain cX3_startAgain 2 none, Cond.fieldLink RX3 24 "ReservoirReed$Priorities" "size" "I", Cond.fieldLink RX3 28 "ReservoirReed$Priorities" "held" "I", Cond.methodLink RX5 72 yX1_startAgain, Cond.instanceMethod yX1_startAgain, Cond.selects RX1 yX1_startAgain yX1_startAgain, Cond.initialized RX1, Cond.code yX1_startAgain cX1_startAgain 2 none, Cond.fieldLink RX1 18 "ReservoirReed$Distinct" "size" "I", Cond.fieldLink RX1 22 "ReservoirReed$Distinct" "held" "I", Cond.methodLink RX5 73 yX0_startAgain, Cond.instanceMethod yX0_startAgain, Cond.selects RX0 yX0_startAgain yX0_startAgain, Cond.initialized RX0, Cond.code yX0_startAgain cX0_startAgain 2 none, Cond.fieldLink RX0 18 "ReservoirReed$Chain" "window" "I", Cond.fieldLink RX0 22 "ReservoirReed$Chain" "start" "I", Cond.fieldLink RX0 25 "ReservoirReed$Chain" "end" "I", Cond.fieldLink RX0 28 "ReservoirReed$Chain" "awaited" "I"]
def wsX6_begin : List Cond := .code yX6_begin cX6_begin 3 none :: ((wsX6_begin_r1 ++ (wsX6_begin_r2 ++ wsX6_begin_r3)) ++ wsX60 ++ wsX50 ++ wsX40 ++ wsX20 ++ wsX30 ++ wsX10 ++ wsX00 ++ (vx_atS RX6 180 "java/lang/IllegalArgumentException" ["java/lang/RuntimeException", "java/lang/Exception"]).filter goodWord)
def wsX6_streamOf : List Cond := .code yX6_streamOf cX6_streamOf 2 (some (.object "ReservoirReed$Stream")) :: ([.fieldLink RX6 10 "ReservoirReed" "stream0" "LReservoirReed$Stream;", .fieldLink RX6 16 "ReservoirReed" "stream1" "LReservoirReed$Stream;"] ++ wsX60)
def wsX6_checkState : List Cond := .code yX6_checkState cX6_checkState 1 none :: ([.classLink RX6 183 "java/lang/IllegalStateException", .initialized "java/lang/IllegalStateException"] ++ (vx_atS RX6 187 "java/lang/IllegalStateException" ["java/lang/RuntimeException", "java/lang/Exception"]).filter goodWord)
def wsX6_offer_r1 : List Cond := [Cond.constant RX6 41 (1000000), Cond.constant RX6 44 (2147483647), Cond.methodLink RX6 37 yX6_checkArgument, Cond.static yX6_checkArgument, Cond.initialized RX6, Cond.code yX6_checkArgument cX6_checkArgument 3 none, Cond.classLink RX6 176 "java/lang/IllegalArgumentException", Cond.initialized "java/lang/IllegalArgumentException", Cond.methodLink RX6 45 yX6_streamOf, Cond.instanceMethod yX6_streamOf, Cond.selects RX6 yX6_streamOf yX6_streamOf, Cond.code yX6_streamOf cX6_streamOf 2 (some (.object "ReservoirReed$Stream")), Cond.fieldLink RX6 10 "ReservoirReed" "stream0" "LReservoirReed$Stream;", Cond.fieldLink RX6 16 "ReservoirReed" "stream1" "LReservoirReed$Stream;", Cond.methodLink RX6 53 yX6_checkState, Cond.static yX6_checkState, Cond.code yX6_checkState cX6_checkState 1 none, Cond.classLink RX6 183 "java/lang/IllegalStateException", Cond.initialized "java/lang/IllegalStateException", Cond.methodLink RX6 57 yX5_take, Cond.instanceMethod yX5_take, Cond.selects RX5 yX5_take yX5_take, Cond.initialized RX5, Cond.code yX5_take cX5_take 6 none]
def wsX6_offer_r2 : List Cond := [Cond.fieldLink RX5 63 "ReservoirReed$Stream" "taken" "I", Cond.fieldLink RX5 10 "ReservoirReed$Stream" "reservoir" "LReservoirReed$Reservoir;", Cond.fieldLink RX5 35 "ReservoirReed$Stream" "priorities" "LReservoirReed$Priorities;", Cond.fieldLink RX5 42 "ReservoirReed$Stream" "distinct" "LReservoirReed$Distinct;", Cond.fieldLink RX5 49 "ReservoirReed$Stream" "chain" "LReservoirReed$Chain;", Cond.methodLink RX5 74 yX4_give, Cond.instanceMethod yX4_give, Cond.selects RX4 yX4_give yX4_give, Cond.initialized RX4, Cond.code yX4_give cX4_give 5 none, Cond.fieldLink RX4 22 "ReservoirReed$Reservoir" "given" "I", Cond.fieldLink RX4 18 "ReservoirReed$Reservoir" "size" "I", Cond.fieldLink RX4 9 "ReservoirReed$Reservoir" "items" "[I", Cond.fieldLink RX4 15 "ReservoirReed$Reservoir" "positions" "[I", Cond.static yX6_remainder, Cond.code yX6_remainder cX6_remainder 2 (some .int), Cond.static yX6_put, Cond.code yX6_put cX6_put 3 none, Cond.methodLink RX5 78 yX5_groupOf, Cond.instanceMethod yX5_groupOf, Cond.selects RX5 yX5_groupOf yX5_groupOf, Cond.code yX5_groupOf cX5_groupOf 2 (some (.object "ReservoirReed$Group")), Cond.fieldLink RX5 19 "ReservoirReed$Stream" "group0" "LReservoirReed$Group;", Cond.fieldLink RX5 23 "ReservoirReed$Stream" "group1" "LReservoirReed$Group;"]
def wsX6_offer_r3 : List Cond := [Cond.fieldLink RX5 26 "ReservoirReed$Stream" "group2" "LReservoirReed$Group;", Cond.fieldLink RX5 29 "ReservoirReed$Stream" "group3" "LReservoirReed$Group;", Cond.methodLink RX5 82 yX2_give, Cond.instanceMethod yX2_give, Cond.selects RX2 yX2_give yX2_give, Cond.initialized RX2, Cond.code yX2_give cX2_give 5 none, Cond.fieldLink RX2 16 "ReservoirReed$Group" "weight" "I", Cond.fieldLink RX2 10 "ReservoirReed$Group" "reservoir" "LReservoirReed$Reservoir;", Cond.methodLink RX2 24 yX4_give, Cond.methodLink RX5 85 yX3_add, Cond.instanceMethod yX3_add, Cond.selects RX3 yX3_add yX3_add, Cond.initialized RX3, Cond.code yX3_add cX3_add 6 none, Cond.fieldLink RX3 24 "ReservoirReed$Priorities" "size" "I", Cond.fieldLink RX3 28 "ReservoirReed$Priorities" "held" "I", Cond.methodLink RX3 43 Lib.Math.min.name, Cond.static Lib.Math.min.name, Cond.initialized "java/lang/Math", Cond.code Lib.Math.min.name Lib.Math.min.code 2 (some .int), Cond.fieldLink RX3 9 "ReservoirReed$Priorities" "items" "[I", Cond.fieldLink RX3 15 "ReservoirReed$Priorities" "weights" "[I", Cond.fieldLink RX3 18 "ReservoirReed$Priorities" "groups" "[I"]
def wsX6_offer_r4 : List Cond := [Cond.fieldLink RX3 21 "ReservoirReed$Priorities" "dice" "[I", Cond.methodLink RX3 39 yX3_placeFor, Cond.instanceMethod yX3_placeFor, Cond.selects RX3 yX3_placeFor yX3_placeFor, Cond.code yX3_placeFor cX3_placeFor 4 (some .int), Cond.methodLink RX3 52 yX3_isGreater, Cond.instanceMethod yX3_isGreater, Cond.selects RX3 yX3_isGreater yX3_isGreater, Cond.code yX3_isGreater cX3_isGreater 4 (some .boolean), Cond.static yX6_at, Cond.code yX6_at cX6_at 2 (some .int), Cond.static yX6_insert, Cond.code yX6_insert cX6_insert 5 none, Cond.methodLink RX6 90 yX6_at, Cond.methodLink RX6 193 yX6_put, Cond.methodLink RX5 88 yX1_add, Cond.instanceMethod yX1_add, Cond.selects RX1 yX1_add yX1_add, Cond.initialized RX1, Cond.code yX1_add cX1_add 4 none, Cond.fieldLink RX1 22 "ReservoirReed$Distinct" "held" "I", Cond.fieldLink RX1 9 "ReservoirReed$Distinct" "items" "[I", Cond.fieldLink RX1 15 "ReservoirReed$Distinct" "times" "[I", Cond.fieldLink RX1 18 "ReservoirReed$Distinct" "size" "I"]
def wsX6_offer_r5 : List Cond := [Cond.methodLink RX1 41 Lib.Math.min.name, Cond.methodLink RX1 33 yX1_placeFor, Cond.instanceMethod yX1_placeFor, Cond.selects RX1 yX1_placeFor yX1_placeFor, Cond.code yX1_placeFor cX1_placeFor 5 (some .int), Cond.methodLink RX1 51 yX1_hashOf, Cond.static yX1_hashOf, Cond.code yX1_hashOf cX1_hashOf 1 (some .long), Cond.constantLong RX1 55 (2654435761), Cond.constantLong RX1 57 (4294967296), Cond.methodLink RX5 91 yX0_give, Cond.instanceMethod yX0_give, Cond.selects RX0 yX0_give yX0_give, Cond.initialized RX0, Cond.code yX0_give cX0_give 5 none, Cond.fieldLink RX0 18 "ReservoirReed$Chain" "window" "I", Cond.methodLink RX0 31 Lib.Math.min.name, Cond.fieldLink RX0 22 "ReservoirReed$Chain" "start" "I", Cond.fieldLink RX0 25 "ReservoirReed$Chain" "end" "I", Cond.fieldLink RX0 28 "ReservoirReed$Chain" "awaited" "I", Cond.fieldLink RX0 15 "ReservoirReed$Chain" "positions" "[I", Cond.methodLink RX0 40 yX0_append, Cond.instanceMethod yX0_append, Cond.selects RX0 yX0_append yX0_append]
def wsX6_offer_r6 : List Cond := [Cond.code yX0_append cX0_append 4 none, Cond.fieldLink RX0 9 "ReservoirReed$Chain" "items" "[I"]
def wsX6_offer : List Cond := .code yX6_offer cX6_offer 8 (some .int) :: ((wsX6_offer_r1 ++ (wsX6_offer_r2 ++ (wsX6_offer_r3 ++ (wsX6_offer_r4 ++ (wsX6_offer_r5 ++ wsX6_offer_r6))))) ++ wsX50 ++ wsX60 ++ wsX40 ++ wsX20 ++ wsX30 ++ wsX10 ++ wsX00 ++ (vx_atS RX6 180 "java/lang/IllegalArgumentException" ["java/lang/RuntimeException", "java/lang/Exception"]).filter goodWord ++ (vx_atS RX6 187 "java/lang/IllegalStateException" ["java/lang/RuntimeException", "java/lang/Exception"]).filter goodWord)
def wsX6_clear_r1 : List Cond := [Cond.methodLink RX6 37 yX6_checkArgument, Cond.static yX6_checkArgument, Cond.initialized RX6, Cond.code yX6_checkArgument cX6_checkArgument 3 none, Cond.classLink RX6 176 "java/lang/IllegalArgumentException", Cond.initialized "java/lang/IllegalArgumentException", Cond.methodLink RX6 45 yX6_streamOf, Cond.instanceMethod yX6_streamOf, Cond.selects RX6 yX6_streamOf yX6_streamOf, Cond.code yX6_streamOf cX6_streamOf 2 (some (.object "ReservoirReed$Stream")), Cond.fieldLink RX6 10 "ReservoirReed" "stream0" "LReservoirReed$Stream;", Cond.fieldLink RX6 16 "ReservoirReed" "stream1" "LReservoirReed$Stream;", Cond.methodLink RX6 61 yX5_makeEmpty, Cond.instanceMethod yX5_makeEmpty, Cond.selects RX5 yX5_makeEmpty yX5_makeEmpty, Cond.initialized RX5, Cond.code yX5_makeEmpty cX5_makeEmpty 1 none, Cond.fieldLink RX5 63 "ReservoirReed$Stream" "taken" "I", Cond.fieldLink RX5 10 "ReservoirReed$Stream" "reservoir" "LReservoirReed$Reservoir;", Cond.fieldLink RX5 53 "ReservoirReed$Stream" "size" "I", Cond.fieldLink RX5 19 "ReservoirReed$Stream" "group0" "LReservoirReed$Group;", Cond.fieldLink RX5 23 "ReservoirReed$Stream" "group1" "LReservoirReed$Group;", Cond.fieldLink RX5 26 "ReservoirReed$Stream" "group2" "LReservoirReed$Group;", Cond.fieldLink RX5 29 "ReservoirReed$Stream" "group3" "LReservoirReed$Group;"]
def wsX6_clear_r2 : List Cond := [Cond.fieldLink RX5 35 "ReservoirReed$Stream" "priorities" "LReservoirReed$Priorities;", Cond.fieldLink RX5 42 "ReservoirReed$Stream" "distinct" "LReservoirReed$Distinct;", Cond.fieldLink RX5 49 "ReservoirReed$Stream" "chain" "LReservoirReed$Chain;", Cond.fieldLink RX5 57 "ReservoirReed$Stream" "window" "I", Cond.methodLink RX5 66 yX4_startAgain, Cond.instanceMethod yX4_startAgain, Cond.selects RX4 yX4_startAgain yX4_startAgain, Cond.initialized RX4, Cond.code yX4_startAgain cX4_startAgain 2 none, Cond.fieldLink RX4 18 "ReservoirReed$Reservoir" "size" "I", Cond.fieldLink RX4 22 "ReservoirReed$Reservoir" "given" "I", Cond.methodLink RX5 70 yX2_startAgain, Cond.instanceMethod yX2_startAgain, Cond.selects RX2 yX2_startAgain yX2_startAgain, Cond.initialized RX2, Cond.code yX2_startAgain cX2_startAgain 2 none, Cond.fieldLink RX2 16 "ReservoirReed$Group" "weight" "I", Cond.fieldLink RX2 10 "ReservoirReed$Group" "reservoir" "LReservoirReed$Reservoir;", Cond.methodLink RX2 20 yX4_startAgain, Cond.methodLink RX5 71 yX3_startAgain, Cond.instanceMethod yX3_startAgain, Cond.selects RX3 yX3_startAgain yX3_startAgain, Cond.initialized RX3, Cond.code yX3_startAgain cX3_startAgain 2 none]
def wsX6_clear_r3 : List Cond := [Cond.fieldLink RX3 24 "ReservoirReed$Priorities" "size" "I", Cond.fieldLink RX3 28 "ReservoirReed$Priorities" "held" "I", Cond.methodLink RX5 72 yX1_startAgain, Cond.instanceMethod yX1_startAgain, Cond.selects RX1 yX1_startAgain yX1_startAgain, Cond.initialized RX1, Cond.code yX1_startAgain cX1_startAgain 2 none, Cond.fieldLink RX1 18 "ReservoirReed$Distinct" "size" "I", Cond.fieldLink RX1 22 "ReservoirReed$Distinct" "held" "I", Cond.methodLink RX5 73 yX0_startAgain, Cond.instanceMethod yX0_startAgain, Cond.selects RX0 yX0_startAgain yX0_startAgain, Cond.initialized RX0, Cond.code yX0_startAgain cX0_startAgain 2 none, Cond.fieldLink RX0 18 "ReservoirReed$Chain" "window" "I", Cond.fieldLink RX0 22 "ReservoirReed$Chain" "start" "I", Cond.fieldLink RX0 25 "ReservoirReed$Chain" "end" "I", Cond.fieldLink RX0 28 "ReservoirReed$Chain" "awaited" "I"]
def wsX6_clear : List Cond := .code yX6_clear cX6_clear 4 (some .int) :: ((wsX6_clear_r1 ++ (wsX6_clear_r2 ++ wsX6_clear_r3)) ++ wsX50 ++ wsX60 ++ wsX40 ++ wsX20 ++ wsX30 ++ wsX10 ++ wsX00 ++ (vx_atS RX6 180 "java/lang/IllegalArgumentException" ["java/lang/RuntimeException", "java/lang/Exception"]).filter goodWord)
def wsX6_offers : List Cond := .code yX6_offers cX6_offers 2 (some .int) :: ([.fieldLink RX6 10 "ReservoirReed" "stream0" "LReservoirReed$Stream;", .fieldLink RX6 16 "ReservoirReed" "stream1" "LReservoirReed$Stream;", .methodLink RX6 37 yX6_checkArgument, .static yX6_checkArgument, .initialized RX6, .code yX6_checkArgument cX6_checkArgument 3 none, .classLink RX6 176 "java/lang/IllegalArgumentException", .initialized "java/lang/IllegalArgumentException", .methodLink RX6 45 yX6_streamOf, .instanceMethod yX6_streamOf, .selects RX6 yX6_streamOf yX6_streamOf, .code yX6_streamOf cX6_streamOf 2 (some (.object "ReservoirReed$Stream"))] ++ wsX60 ++ wsX50 ++ (vx_atS RX6 180 "java/lang/IllegalArgumentException" ["java/lang/RuntimeException", "java/lang/Exception"]).filter goodWord)
def wsX6_exactWeight : List Cond := .code yX6_exactWeight cX6_exactWeight 3 (some .int) :: ([.fieldLink RX6 10 "ReservoirReed" "stream0" "LReservoirReed$Stream;", .fieldLink RX6 16 "ReservoirReed" "stream1" "LReservoirReed$Stream;", .methodLink RX6 37 yX6_checkArgument, .static yX6_checkArgument, .initialized RX6, .code yX6_checkArgument cX6_checkArgument 3 none, .classLink RX6 176 "java/lang/IllegalArgumentException", .initialized "java/lang/IllegalArgumentException", .methodLink RX6 64 yX5_groupOf, .instanceMethod yX5_groupOf, .selects RX5 yX5_groupOf yX5_groupOf, .initialized RX5, .code yX5_groupOf cX5_groupOf 2 (some (.object "ReservoirReed$Group")), .fieldLink RX5 19 "ReservoirReed$Stream" "group0" "LReservoirReed$Group;", .fieldLink RX5 23 "ReservoirReed$Stream" "group1" "LReservoirReed$Group;", .fieldLink RX5 26 "ReservoirReed$Stream" "group2" "LReservoirReed$Group;", .fieldLink RX5 29 "ReservoirReed$Stream" "group3" "LReservoirReed$Group;", .methodLink RX6 45 yX6_streamOf, .instanceMethod yX6_streamOf, .selects RX6 yX6_streamOf yX6_streamOf, .code yX6_streamOf cX6_streamOf 2 (some (.object "ReservoirReed$Stream"))] ++ wsX60 ++ wsX20 ++ wsX50 ++ (vx_atS RX6 180 "java/lang/IllegalArgumentException" ["java/lang/RuntimeException", "java/lang/Exception"]).filter goodWord)
def wsX6_reservoirSize : List Cond := .code yX6_reservoirSize cX6_reservoirSize 2 (some .int) :: ([.methodLink RX6 37 yX6_checkArgument, .static yX6_checkArgument, .initialized RX6, .code yX6_checkArgument cX6_checkArgument 3 none, .classLink RX6 176 "java/lang/IllegalArgumentException", .initialized "java/lang/IllegalArgumentException", .methodLink RX6 45 yX6_streamOf, .instanceMethod yX6_streamOf, .selects RX6 yX6_streamOf yX6_streamOf, .code yX6_streamOf cX6_streamOf 2 (some (.object "ReservoirReed$Stream")), .fieldLink RX6 10 "ReservoirReed" "stream0" "LReservoirReed$Stream;", .fieldLink RX6 16 "ReservoirReed" "stream1" "LReservoirReed$Stream;", .methodLink RX6 77 yX4_filled, .instanceMethod yX4_filled, .selects RX4 yX4_filled yX4_filled, .initialized RX4, .code yX4_filled cX4_filled 1 (some .int), .fieldLink RX4 22 "ReservoirReed$Reservoir" "given" "I", .fieldLink RX4 18 "ReservoirReed$Reservoir" "size" "I", .methodLink RX4 33 Lib.Math.min.name, .static Lib.Math.min.name, .initialized "java/lang/Math", .code Lib.Math.min.name Lib.Math.min.code 2 (some .int)] ++ wsX50 ++ wsX60 ++ wsX40 ++ (vx_atS RX6 180 "java/lang/IllegalArgumentException" ["java/lang/RuntimeException", "java/lang/Exception"]).filter goodWord)
def wsX6_checkPlace : List Cond := .code yX6_checkPlace cX6_checkPlace 2 none :: ([.classLink RX6 188 "java/lang/IndexOutOfBoundsException", .initialized "java/lang/IndexOutOfBoundsException"] ++ (vx_atS RX6 192 "java/lang/IndexOutOfBoundsException" ["java/lang/RuntimeException", "java/lang/Exception"]).filter goodWord)
def wsX6_reservoirItem_r1 : List Cond := [Cond.methodLink RX6 37 yX6_checkArgument, Cond.static yX6_checkArgument, Cond.initialized RX6, Cond.code yX6_checkArgument cX6_checkArgument 3 none, Cond.classLink RX6 176 "java/lang/IllegalArgumentException", Cond.initialized "java/lang/IllegalArgumentException", Cond.methodLink RX6 45 yX6_streamOf, Cond.instanceMethod yX6_streamOf, Cond.selects RX6 yX6_streamOf yX6_streamOf, Cond.code yX6_streamOf cX6_streamOf 2 (some (.object "ReservoirReed$Stream")), Cond.fieldLink RX6 10 "ReservoirReed" "stream0" "LReservoirReed$Stream;", Cond.fieldLink RX6 16 "ReservoirReed" "stream1" "LReservoirReed$Stream;", Cond.methodLink RX6 77 yX4_filled, Cond.instanceMethod yX4_filled, Cond.selects RX4 yX4_filled yX4_filled, Cond.initialized RX4, Cond.code yX4_filled cX4_filled 1 (some .int), Cond.fieldLink RX4 22 "ReservoirReed$Reservoir" "given" "I", Cond.fieldLink RX4 18 "ReservoirReed$Reservoir" "size" "I", Cond.methodLink RX4 33 Lib.Math.min.name, Cond.static Lib.Math.min.name, Cond.initialized "java/lang/Math", Cond.code Lib.Math.min.name Lib.Math.min.code 2 (some .int), Cond.methodLink RX6 83 yX6_checkPlace]
def wsX6_reservoirItem_r2 : List Cond := [Cond.static yX6_checkPlace, Cond.code yX6_checkPlace cX6_checkPlace 2 none, Cond.classLink RX6 188 "java/lang/IndexOutOfBoundsException", Cond.initialized "java/lang/IndexOutOfBoundsException", Cond.methodLink RX6 90 yX6_at, Cond.static yX6_at, Cond.code yX6_at cX6_at 2 (some .int)]
def wsX6_reservoirItem : List Cond := .code yX6_reservoirItem cX6_reservoirItem 4 (some .int) :: ((wsX6_reservoirItem_r1 ++ wsX6_reservoirItem_r2) ++ wsX50 ++ wsX40 ++ wsX60 ++ (vx_atS RX6 180 "java/lang/IllegalArgumentException" ["java/lang/RuntimeException", "java/lang/Exception"]).filter goodWord ++ (vx_atS RX6 192 "java/lang/IndexOutOfBoundsException" ["java/lang/RuntimeException", "java/lang/Exception"]).filter goodWord)
def wsX6_reservoirPosition_r1 : List Cond := [Cond.methodLink RX6 37 yX6_checkArgument, Cond.static yX6_checkArgument, Cond.initialized RX6, Cond.code yX6_checkArgument cX6_checkArgument 3 none, Cond.classLink RX6 176 "java/lang/IllegalArgumentException", Cond.initialized "java/lang/IllegalArgumentException", Cond.methodLink RX6 45 yX6_streamOf, Cond.instanceMethod yX6_streamOf, Cond.selects RX6 yX6_streamOf yX6_streamOf, Cond.code yX6_streamOf cX6_streamOf 2 (some (.object "ReservoirReed$Stream")), Cond.fieldLink RX6 10 "ReservoirReed" "stream0" "LReservoirReed$Stream;", Cond.fieldLink RX6 16 "ReservoirReed" "stream1" "LReservoirReed$Stream;", Cond.methodLink RX6 77 yX4_filled, Cond.instanceMethod yX4_filled, Cond.selects RX4 yX4_filled yX4_filled, Cond.initialized RX4, Cond.code yX4_filled cX4_filled 1 (some .int), Cond.fieldLink RX4 22 "ReservoirReed$Reservoir" "given" "I", Cond.fieldLink RX4 18 "ReservoirReed$Reservoir" "size" "I", Cond.methodLink RX4 33 Lib.Math.min.name, Cond.static Lib.Math.min.name, Cond.initialized "java/lang/Math", Cond.code Lib.Math.min.name Lib.Math.min.code 2 (some .int), Cond.methodLink RX6 83 yX6_checkPlace]
def wsX6_reservoirPosition_r2 : List Cond := [Cond.static yX6_checkPlace, Cond.code yX6_checkPlace cX6_checkPlace 2 none, Cond.classLink RX6 188 "java/lang/IndexOutOfBoundsException", Cond.initialized "java/lang/IndexOutOfBoundsException", Cond.methodLink RX6 90 yX6_at, Cond.static yX6_at, Cond.code yX6_at cX6_at 2 (some .int)]
def wsX6_reservoirPosition : List Cond := .code yX6_reservoirPosition cX6_reservoirPosition 4 (some .int) :: ((wsX6_reservoirPosition_r1 ++ wsX6_reservoirPosition_r2) ++ wsX50 ++ wsX40 ++ wsX60 ++ (vx_atS RX6 180 "java/lang/IllegalArgumentException" ["java/lang/RuntimeException", "java/lang/Exception"]).filter goodWord ++ (vx_atS RX6 192 "java/lang/IndexOutOfBoundsException" ["java/lang/RuntimeException", "java/lang/Exception"]).filter goodWord)
def wsX6_groupOffers : List Cond := .code yX6_groupOffers cX6_groupOffers 3 (some .int) :: ([.methodLink RX6 37 yX6_checkArgument, .static yX6_checkArgument, .initialized RX6, .code yX6_checkArgument cX6_checkArgument 3 none, .classLink RX6 176 "java/lang/IllegalArgumentException", .initialized "java/lang/IllegalArgumentException", .methodLink RX6 45 yX6_streamOf, .instanceMethod yX6_streamOf, .selects RX6 yX6_streamOf yX6_streamOf, .code yX6_streamOf cX6_streamOf 2 (some (.object "ReservoirReed$Stream")), .fieldLink RX6 10 "ReservoirReed" "stream0" "LReservoirReed$Stream;", .fieldLink RX6 16 "ReservoirReed" "stream1" "LReservoirReed$Stream;", .methodLink RX6 64 yX5_groupOf, .instanceMethod yX5_groupOf, .selects RX5 yX5_groupOf yX5_groupOf, .initialized RX5, .code yX5_groupOf cX5_groupOf 2 (some (.object "ReservoirReed$Group")), .fieldLink RX5 19 "ReservoirReed$Stream" "group0" "LReservoirReed$Group;", .fieldLink RX5 23 "ReservoirReed$Stream" "group1" "LReservoirReed$Group;", .fieldLink RX5 26 "ReservoirReed$Stream" "group2" "LReservoirReed$Group;", .fieldLink RX5 29 "ReservoirReed$Stream" "group3" "LReservoirReed$Group;"] ++ wsX20 ++ wsX40 ++ wsX60 ++ wsX50 ++ (vx_atS RX6 180 "java/lang/IllegalArgumentException" ["java/lang/RuntimeException", "java/lang/Exception"]).filter goodWord)
def wsX6_groupItem_r1 : List Cond := [Cond.methodLink RX6 37 yX6_checkArgument, Cond.static yX6_checkArgument, Cond.initialized RX6, Cond.code yX6_checkArgument cX6_checkArgument 3 none, Cond.classLink RX6 176 "java/lang/IllegalArgumentException", Cond.initialized "java/lang/IllegalArgumentException", Cond.methodLink RX6 45 yX6_streamOf, Cond.instanceMethod yX6_streamOf, Cond.selects RX6 yX6_streamOf yX6_streamOf, Cond.code yX6_streamOf cX6_streamOf 2 (some (.object "ReservoirReed$Stream")), Cond.fieldLink RX6 10 "ReservoirReed" "stream0" "LReservoirReed$Stream;", Cond.fieldLink RX6 16 "ReservoirReed" "stream1" "LReservoirReed$Stream;", Cond.methodLink RX6 64 yX5_groupOf, Cond.instanceMethod yX5_groupOf, Cond.selects RX5 yX5_groupOf yX5_groupOf, Cond.initialized RX5, Cond.code yX5_groupOf cX5_groupOf 2 (some (.object "ReservoirReed$Group")), Cond.fieldLink RX5 19 "ReservoirReed$Stream" "group0" "LReservoirReed$Group;", Cond.fieldLink RX5 23 "ReservoirReed$Stream" "group1" "LReservoirReed$Group;", Cond.fieldLink RX5 26 "ReservoirReed$Stream" "group2" "LReservoirReed$Group;", Cond.fieldLink RX5 29 "ReservoirReed$Stream" "group3" "LReservoirReed$Group;", Cond.methodLink RX6 77 yX4_filled, Cond.instanceMethod yX4_filled, Cond.selects RX4 yX4_filled yX4_filled]
def wsX6_groupItem_r2 : List Cond := [Cond.initialized RX4, Cond.code yX4_filled cX4_filled 1 (some .int), Cond.fieldLink RX4 22 "ReservoirReed$Reservoir" "given" "I", Cond.fieldLink RX4 18 "ReservoirReed$Reservoir" "size" "I", Cond.methodLink RX4 33 Lib.Math.min.name, Cond.static Lib.Math.min.name, Cond.initialized "java/lang/Math", Cond.code Lib.Math.min.name Lib.Math.min.code 2 (some .int), Cond.methodLink RX6 83 yX6_checkPlace, Cond.static yX6_checkPlace, Cond.code yX6_checkPlace cX6_checkPlace 2 none, Cond.classLink RX6 188 "java/lang/IndexOutOfBoundsException", Cond.initialized "java/lang/IndexOutOfBoundsException", Cond.methodLink RX6 90 yX6_at, Cond.static yX6_at, Cond.code yX6_at cX6_at 2 (some .int)]
def wsX6_groupItem : List Cond := .code yX6_groupItem cX6_groupItem 5 (some .int) :: ((wsX6_groupItem_r1 ++ wsX6_groupItem_r2) ++ wsX20 ++ wsX40 ++ wsX60 ++ wsX50 ++ (vx_atS RX6 180 "java/lang/IllegalArgumentException" ["java/lang/RuntimeException", "java/lang/Exception"]).filter goodWord ++ (vx_atS RX6 192 "java/lang/IndexOutOfBoundsException" ["java/lang/RuntimeException", "java/lang/Exception"]).filter goodWord)
def wsX6_prioritiesOf_r1 : List Cond := [Cond.fieldLink RX6 22 "ReservoirReed" "mergedPriorities" "LReservoirReed$Priorities;", Cond.fieldLink RX6 155 "ReservoirReed" "size" "I", Cond.fieldLink RX6 10 "ReservoirReed" "stream0" "LReservoirReed$Stream;", Cond.fieldLink RX6 16 "ReservoirReed" "stream1" "LReservoirReed$Stream;", Cond.methodLink RX6 45 yX6_streamOf, Cond.instanceMethod yX6_streamOf, Cond.selects RX6 yX6_streamOf yX6_streamOf, Cond.initialized RX6, Cond.code yX6_streamOf cX6_streamOf 2 (some (.object "ReservoirReed$Stream")), Cond.methodLink RX6 162 yX3_startAgain, Cond.instanceMethod yX3_startAgain, Cond.selects RX3 yX3_startAgain yX3_startAgain, Cond.initialized RX3, Cond.code yX3_startAgain cX3_startAgain 2 none, Cond.fieldLink RX3 24 "ReservoirReed$Priorities" "size" "I", Cond.fieldLink RX3 28 "ReservoirReed$Priorities" "held" "I", Cond.methodLink RX6 165 yX3_addAll, Cond.instanceMethod yX3_addAll, Cond.selects RX3 yX3_addAll yX3_addAll, Cond.code yX3_addAll cX3_addAll 4 none, Cond.fieldLink RX3 9 "ReservoirReed$Priorities" "items" "[I", Cond.fieldLink RX3 15 "ReservoirReed$Priorities" "weights" "[I", Cond.fieldLink RX3 18 "ReservoirReed$Priorities" "groups" "[I", Cond.fieldLink RX3 21 "ReservoirReed$Priorities" "dice" "[I"]
def wsX6_prioritiesOf_r2 : List Cond := [Cond.static yX6_at, Cond.code yX6_at cX6_at 2 (some .int), Cond.methodLink RX3 35 yX3_add, Cond.instanceMethod yX3_add, Cond.selects RX3 yX3_add yX3_add, Cond.code yX3_add cX3_add 6 none, Cond.methodLink RX3 43 Lib.Math.min.name, Cond.static Lib.Math.min.name, Cond.initialized "java/lang/Math", Cond.code Lib.Math.min.name Lib.Math.min.code 2 (some .int), Cond.methodLink RX3 39 yX3_placeFor, Cond.instanceMethod yX3_placeFor, Cond.selects RX3 yX3_placeFor yX3_placeFor, Cond.code yX3_placeFor cX3_placeFor 4 (some .int), Cond.methodLink RX3 52 yX3_isGreater, Cond.instanceMethod yX3_isGreater, Cond.selects RX3 yX3_isGreater yX3_isGreater, Cond.code yX3_isGreater cX3_isGreater 4 (some .boolean), Cond.static yX6_insert, Cond.code yX6_insert cX6_insert 5 none, Cond.methodLink RX6 90 yX6_at, Cond.methodLink RX6 193 yX6_put, Cond.static yX6_put, Cond.code yX6_put cX6_put 3 none]
def wsX6_prioritiesOf : List Cond := .code yX6_prioritiesOf cX6_prioritiesOf 2 (some (.object "ReservoirReed$Priorities")) :: ((wsX6_prioritiesOf_r1 ++ wsX6_prioritiesOf_r2) ++ wsX50 ++ wsX60 ++ wsX30)
def wsX6_prioritySize_r1 : List Cond := [Cond.methodLink RX6 37 yX6_checkArgument, Cond.static yX6_checkArgument, Cond.initialized RX6, Cond.code yX6_checkArgument cX6_checkArgument 3 none, Cond.classLink RX6 176 "java/lang/IllegalArgumentException", Cond.initialized "java/lang/IllegalArgumentException", Cond.methodLink RX6 101 yX6_prioritiesOf, Cond.instanceMethod yX6_prioritiesOf, Cond.selects RX6 yX6_prioritiesOf yX6_prioritiesOf, Cond.code yX6_prioritiesOf cX6_prioritiesOf 2 (some (.object "ReservoirReed$Priorities")), Cond.fieldLink RX6 22 "ReservoirReed" "mergedPriorities" "LReservoirReed$Priorities;", Cond.fieldLink RX6 155 "ReservoirReed" "size" "I", Cond.fieldLink RX6 10 "ReservoirReed" "stream0" "LReservoirReed$Stream;", Cond.fieldLink RX6 16 "ReservoirReed" "stream1" "LReservoirReed$Stream;", Cond.methodLink RX6 45 yX6_streamOf, Cond.instanceMethod yX6_streamOf, Cond.selects RX6 yX6_streamOf yX6_streamOf, Cond.code yX6_streamOf cX6_streamOf 2 (some (.object "ReservoirReed$Stream")), Cond.methodLink RX6 162 yX3_startAgain, Cond.instanceMethod yX3_startAgain, Cond.selects RX3 yX3_startAgain yX3_startAgain, Cond.initialized RX3, Cond.code yX3_startAgain cX3_startAgain 2 none, Cond.fieldLink RX3 24 "ReservoirReed$Priorities" "size" "I"]
def wsX6_prioritySize_r2 : List Cond := [Cond.fieldLink RX3 28 "ReservoirReed$Priorities" "held" "I", Cond.methodLink RX6 165 yX3_addAll, Cond.instanceMethod yX3_addAll, Cond.selects RX3 yX3_addAll yX3_addAll, Cond.code yX3_addAll cX3_addAll 4 none, Cond.fieldLink RX3 9 "ReservoirReed$Priorities" "items" "[I", Cond.fieldLink RX3 15 "ReservoirReed$Priorities" "weights" "[I", Cond.fieldLink RX3 18 "ReservoirReed$Priorities" "groups" "[I", Cond.fieldLink RX3 21 "ReservoirReed$Priorities" "dice" "[I", Cond.static yX6_at, Cond.code yX6_at cX6_at 2 (some .int), Cond.methodLink RX3 35 yX3_add, Cond.instanceMethod yX3_add, Cond.selects RX3 yX3_add yX3_add, Cond.code yX3_add cX3_add 6 none, Cond.methodLink RX3 43 Lib.Math.min.name, Cond.static Lib.Math.min.name, Cond.initialized "java/lang/Math", Cond.code Lib.Math.min.name Lib.Math.min.code 2 (some .int), Cond.methodLink RX3 39 yX3_placeFor, Cond.instanceMethod yX3_placeFor, Cond.selects RX3 yX3_placeFor yX3_placeFor, Cond.code yX3_placeFor cX3_placeFor 4 (some .int), Cond.methodLink RX3 52 yX3_isGreater]
def wsX6_prioritySize_r3 : List Cond := [Cond.instanceMethod yX3_isGreater, Cond.selects RX3 yX3_isGreater yX3_isGreater, Cond.code yX3_isGreater cX3_isGreater 4 (some .boolean), Cond.static yX6_insert, Cond.code yX6_insert cX6_insert 5 none, Cond.methodLink RX6 90 yX6_at, Cond.methodLink RX6 193 yX6_put, Cond.static yX6_put, Cond.code yX6_put cX6_put 3 none, Cond.methodLink RX6 105 yX3_sampled, Cond.instanceMethod yX3_sampled, Cond.selects RX3 yX3_sampled yX3_sampled, Cond.code yX3_sampled cX3_sampled 1 (some .int)]
def wsX6_prioritySize : List Cond := .code yX6_prioritySize cX6_prioritySize 2 (some .int) :: ((wsX6_prioritySize_r1 ++ (wsX6_prioritySize_r2 ++ wsX6_prioritySize_r3)) ++ wsX50 ++ wsX60 ++ wsX30 ++ (vx_atS RX6 180 "java/lang/IllegalArgumentException" ["java/lang/RuntimeException", "java/lang/Exception"]).filter goodWord)
def wsX6_priorityItem_r1 : List Cond := [Cond.methodLink RX6 37 yX6_checkArgument, Cond.static yX6_checkArgument, Cond.initialized RX6, Cond.code yX6_checkArgument cX6_checkArgument 3 none, Cond.classLink RX6 176 "java/lang/IllegalArgumentException", Cond.initialized "java/lang/IllegalArgumentException", Cond.methodLink RX6 101 yX6_prioritiesOf, Cond.instanceMethod yX6_prioritiesOf, Cond.selects RX6 yX6_prioritiesOf yX6_prioritiesOf, Cond.code yX6_prioritiesOf cX6_prioritiesOf 2 (some (.object "ReservoirReed$Priorities")), Cond.fieldLink RX6 22 "ReservoirReed" "mergedPriorities" "LReservoirReed$Priorities;", Cond.fieldLink RX6 155 "ReservoirReed" "size" "I", Cond.fieldLink RX6 10 "ReservoirReed" "stream0" "LReservoirReed$Stream;", Cond.fieldLink RX6 16 "ReservoirReed" "stream1" "LReservoirReed$Stream;", Cond.methodLink RX6 45 yX6_streamOf, Cond.instanceMethod yX6_streamOf, Cond.selects RX6 yX6_streamOf yX6_streamOf, Cond.code yX6_streamOf cX6_streamOf 2 (some (.object "ReservoirReed$Stream")), Cond.methodLink RX6 162 yX3_startAgain, Cond.instanceMethod yX3_startAgain, Cond.selects RX3 yX3_startAgain yX3_startAgain, Cond.initialized RX3, Cond.code yX3_startAgain cX3_startAgain 2 none, Cond.fieldLink RX3 24 "ReservoirReed$Priorities" "size" "I"]
def wsX6_priorityItem_r2 : List Cond := [Cond.fieldLink RX3 28 "ReservoirReed$Priorities" "held" "I", Cond.methodLink RX6 165 yX3_addAll, Cond.instanceMethod yX3_addAll, Cond.selects RX3 yX3_addAll yX3_addAll, Cond.code yX3_addAll cX3_addAll 4 none, Cond.fieldLink RX3 9 "ReservoirReed$Priorities" "items" "[I", Cond.fieldLink RX3 15 "ReservoirReed$Priorities" "weights" "[I", Cond.fieldLink RX3 18 "ReservoirReed$Priorities" "groups" "[I", Cond.fieldLink RX3 21 "ReservoirReed$Priorities" "dice" "[I", Cond.static yX6_at, Cond.code yX6_at cX6_at 2 (some .int), Cond.methodLink RX3 35 yX3_add, Cond.instanceMethod yX3_add, Cond.selects RX3 yX3_add yX3_add, Cond.code yX3_add cX3_add 6 none, Cond.methodLink RX3 43 Lib.Math.min.name, Cond.static Lib.Math.min.name, Cond.initialized "java/lang/Math", Cond.code Lib.Math.min.name Lib.Math.min.code 2 (some .int), Cond.methodLink RX3 39 yX3_placeFor, Cond.instanceMethod yX3_placeFor, Cond.selects RX3 yX3_placeFor yX3_placeFor, Cond.code yX3_placeFor cX3_placeFor 4 (some .int), Cond.methodLink RX3 52 yX3_isGreater]
def wsX6_priorityItem_r3 : List Cond := [Cond.instanceMethod yX3_isGreater, Cond.selects RX3 yX3_isGreater yX3_isGreater, Cond.code yX3_isGreater cX3_isGreater 4 (some .boolean), Cond.static yX6_insert, Cond.code yX6_insert cX6_insert 5 none, Cond.methodLink RX6 90 yX6_at, Cond.methodLink RX6 193 yX6_put, Cond.static yX6_put, Cond.code yX6_put cX6_put 3 none, Cond.methodLink RX6 105 yX3_sampled, Cond.instanceMethod yX3_sampled, Cond.selects RX3 yX3_sampled yX3_sampled, Cond.code yX3_sampled cX3_sampled 1 (some .int), Cond.methodLink RX6 83 yX6_checkPlace, Cond.static yX6_checkPlace, Cond.code yX6_checkPlace cX6_checkPlace 2 none, Cond.classLink RX6 188 "java/lang/IndexOutOfBoundsException", Cond.initialized "java/lang/IndexOutOfBoundsException"]
def wsX6_priorityItem : List Cond := .code yX6_priorityItem cX6_priorityItem 4 (some .int) :: ((wsX6_priorityItem_r1 ++ (wsX6_priorityItem_r2 ++ wsX6_priorityItem_r3)) ++ wsX30 ++ wsX50 ++ wsX60 ++ (vx_atS RX6 180 "java/lang/IllegalArgumentException" ["java/lang/RuntimeException", "java/lang/Exception"]).filter goodWord ++ (vx_atS RX6 192 "java/lang/IndexOutOfBoundsException" ["java/lang/RuntimeException", "java/lang/Exception"]).filter goodWord)
def wsX6_estimatedWeight_r1 : List Cond := [Cond.methodLink RX6 37 yX6_checkArgument, Cond.static yX6_checkArgument, Cond.initialized RX6, Cond.code yX6_checkArgument cX6_checkArgument 3 none, Cond.classLink RX6 176 "java/lang/IllegalArgumentException", Cond.initialized "java/lang/IllegalArgumentException", Cond.methodLink RX6 101 yX6_prioritiesOf, Cond.instanceMethod yX6_prioritiesOf, Cond.selects RX6 yX6_prioritiesOf yX6_prioritiesOf, Cond.code yX6_prioritiesOf cX6_prioritiesOf 2 (some (.object "ReservoirReed$Priorities")), Cond.fieldLink RX6 22 "ReservoirReed" "mergedPriorities" "LReservoirReed$Priorities;", Cond.fieldLink RX6 155 "ReservoirReed" "size" "I", Cond.fieldLink RX6 10 "ReservoirReed" "stream0" "LReservoirReed$Stream;", Cond.fieldLink RX6 16 "ReservoirReed" "stream1" "LReservoirReed$Stream;", Cond.methodLink RX6 45 yX6_streamOf, Cond.instanceMethod yX6_streamOf, Cond.selects RX6 yX6_streamOf yX6_streamOf, Cond.code yX6_streamOf cX6_streamOf 2 (some (.object "ReservoirReed$Stream")), Cond.methodLink RX6 162 yX3_startAgain, Cond.instanceMethod yX3_startAgain, Cond.selects RX3 yX3_startAgain yX3_startAgain, Cond.initialized RX3, Cond.code yX3_startAgain cX3_startAgain 2 none, Cond.fieldLink RX3 24 "ReservoirReed$Priorities" "size" "I"]
def wsX6_estimatedWeight_r2 : List Cond := [Cond.fieldLink RX3 28 "ReservoirReed$Priorities" "held" "I", Cond.methodLink RX6 165 yX3_addAll, Cond.instanceMethod yX3_addAll, Cond.selects RX3 yX3_addAll yX3_addAll, Cond.code yX3_addAll cX3_addAll 4 none, Cond.fieldLink RX3 9 "ReservoirReed$Priorities" "items" "[I", Cond.fieldLink RX3 15 "ReservoirReed$Priorities" "weights" "[I", Cond.fieldLink RX3 18 "ReservoirReed$Priorities" "groups" "[I", Cond.fieldLink RX3 21 "ReservoirReed$Priorities" "dice" "[I", Cond.static yX6_at, Cond.code yX6_at cX6_at 2 (some .int), Cond.methodLink RX3 35 yX3_add, Cond.instanceMethod yX3_add, Cond.selects RX3 yX3_add yX3_add, Cond.code yX3_add cX3_add 6 none, Cond.methodLink RX3 43 Lib.Math.min.name, Cond.static Lib.Math.min.name, Cond.initialized "java/lang/Math", Cond.code Lib.Math.min.name Lib.Math.min.code 2 (some .int), Cond.methodLink RX3 39 yX3_placeFor, Cond.instanceMethod yX3_placeFor, Cond.selects RX3 yX3_placeFor yX3_placeFor, Cond.code yX3_placeFor cX3_placeFor 4 (some .int), Cond.methodLink RX3 52 yX3_isGreater]
def wsX6_estimatedWeight_r3 : List Cond := [Cond.instanceMethod yX3_isGreater, Cond.selects RX3 yX3_isGreater yX3_isGreater, Cond.code yX3_isGreater cX3_isGreater 4 (some .boolean), Cond.static yX6_insert, Cond.code yX6_insert cX6_insert 5 none, Cond.methodLink RX6 90 yX6_at, Cond.methodLink RX6 193 yX6_put, Cond.static yX6_put, Cond.code yX6_put cX6_put 3 none, Cond.methodLink RX6 105 yX3_sampled, Cond.instanceMethod yX3_sampled, Cond.selects RX3 yX3_sampled yX3_sampled, Cond.code yX3_sampled cX3_sampled 1 (some .int), Cond.methodLink RX6 83 yX6_checkPlace, Cond.static yX6_checkPlace, Cond.code yX6_checkPlace cX6_checkPlace 2 none, Cond.classLink RX6 188 "java/lang/IndexOutOfBoundsException", Cond.initialized "java/lang/IndexOutOfBoundsException", Cond.methodLink RX6 109 yX3_estimateAt, Cond.instanceMethod yX3_estimateAt, Cond.selects RX3 yX3_estimateAt yX3_estimateAt, Cond.code yX3_estimateAt cX3_estimateAt 2 (some .long), Cond.methodLink RX3 64 Lib.MathLoose.max_long.x, Cond.static Lib.MathLoose.max_long.x]
def wsX6_estimatedWeight_r4 : List Cond := [Cond.code Lib.MathLoose.max_long.x Lib.MathLoose.max_long.code 4 (some .long), Cond.methodLink RX3 60 yX3_bound, Cond.instanceMethod yX3_bound, Cond.selects RX3 yX3_bound yX3_bound, Cond.code yX3_bound cX3_bound 3 (some .long), Cond.static yX6_quotient, Cond.code yX6_quotient cX6_quotient 4 (some .long)]
def wsX6_estimatedWeight : List Cond := .code yX6_estimatedWeight cX6_estimatedWeight 4 (some .long) :: ((wsX6_estimatedWeight_r1 ++ (wsX6_estimatedWeight_r2 ++ (wsX6_estimatedWeight_r3 ++ wsX6_estimatedWeight_r4))) ++ wsX50 ++ wsX60 ++ wsX30 ++ (vx_atS RX6 180 "java/lang/IllegalArgumentException" ["java/lang/RuntimeException", "java/lang/Exception"]).filter goodWord ++ (vx_atS RX6 192 "java/lang/IndexOutOfBoundsException" ["java/lang/RuntimeException", "java/lang/Exception"]).filter goodWord)
def wsX6_threshold_r1 : List Cond := [Cond.methodLink RX6 37 yX6_checkArgument, Cond.static yX6_checkArgument, Cond.initialized RX6, Cond.code yX6_checkArgument cX6_checkArgument 3 none, Cond.classLink RX6 176 "java/lang/IllegalArgumentException", Cond.initialized "java/lang/IllegalArgumentException", Cond.methodLink RX6 101 yX6_prioritiesOf, Cond.instanceMethod yX6_prioritiesOf, Cond.selects RX6 yX6_prioritiesOf yX6_prioritiesOf, Cond.code yX6_prioritiesOf cX6_prioritiesOf 2 (some (.object "ReservoirReed$Priorities")), Cond.fieldLink RX6 22 "ReservoirReed" "mergedPriorities" "LReservoirReed$Priorities;", Cond.fieldLink RX6 155 "ReservoirReed" "size" "I", Cond.fieldLink RX6 10 "ReservoirReed" "stream0" "LReservoirReed$Stream;", Cond.fieldLink RX6 16 "ReservoirReed" "stream1" "LReservoirReed$Stream;", Cond.methodLink RX6 45 yX6_streamOf, Cond.instanceMethod yX6_streamOf, Cond.selects RX6 yX6_streamOf yX6_streamOf, Cond.code yX6_streamOf cX6_streamOf 2 (some (.object "ReservoirReed$Stream")), Cond.methodLink RX6 162 yX3_startAgain, Cond.instanceMethod yX3_startAgain, Cond.selects RX3 yX3_startAgain yX3_startAgain, Cond.initialized RX3, Cond.code yX3_startAgain cX3_startAgain 2 none, Cond.fieldLink RX3 24 "ReservoirReed$Priorities" "size" "I"]
def wsX6_threshold_r2 : List Cond := [Cond.fieldLink RX3 28 "ReservoirReed$Priorities" "held" "I", Cond.methodLink RX6 165 yX3_addAll, Cond.instanceMethod yX3_addAll, Cond.selects RX3 yX3_addAll yX3_addAll, Cond.code yX3_addAll cX3_addAll 4 none, Cond.fieldLink RX3 9 "ReservoirReed$Priorities" "items" "[I", Cond.fieldLink RX3 15 "ReservoirReed$Priorities" "weights" "[I", Cond.fieldLink RX3 18 "ReservoirReed$Priorities" "groups" "[I", Cond.fieldLink RX3 21 "ReservoirReed$Priorities" "dice" "[I", Cond.static yX6_at, Cond.code yX6_at cX6_at 2 (some .int), Cond.methodLink RX3 35 yX3_add, Cond.instanceMethod yX3_add, Cond.selects RX3 yX3_add yX3_add, Cond.code yX3_add cX3_add 6 none, Cond.methodLink RX3 43 Lib.Math.min.name, Cond.static Lib.Math.min.name, Cond.initialized "java/lang/Math", Cond.code Lib.Math.min.name Lib.Math.min.code 2 (some .int), Cond.methodLink RX3 39 yX3_placeFor, Cond.instanceMethod yX3_placeFor, Cond.selects RX3 yX3_placeFor yX3_placeFor, Cond.code yX3_placeFor cX3_placeFor 4 (some .int), Cond.methodLink RX3 52 yX3_isGreater]
def wsX6_threshold_r3 : List Cond := [Cond.instanceMethod yX3_isGreater, Cond.selects RX3 yX3_isGreater yX3_isGreater, Cond.code yX3_isGreater cX3_isGreater 4 (some .boolean), Cond.static yX6_insert, Cond.code yX6_insert cX6_insert 5 none, Cond.methodLink RX6 90 yX6_at, Cond.methodLink RX6 193 yX6_put, Cond.static yX6_put, Cond.code yX6_put cX6_put 3 none, Cond.methodLink RX6 113 yX3_bound, Cond.instanceMethod yX3_bound, Cond.selects RX3 yX3_bound yX3_bound, Cond.code yX3_bound cX3_bound 3 (some .long), Cond.static yX6_quotient, Cond.code yX6_quotient cX6_quotient 4 (some .long)]
def wsX6_threshold : List Cond := .code yX6_threshold cX6_threshold 2 (some .long) :: ((wsX6_threshold_r1 ++ (wsX6_threshold_r2 ++ wsX6_threshold_r3)) ++ wsX50 ++ wsX60 ++ wsX30 ++ (vx_atS RX6 180 "java/lang/IllegalArgumentException" ["java/lang/RuntimeException", "java/lang/Exception"]).filter goodWord)
def wsX6_estimate_r1 : List Cond := [Cond.methodLink RX6 37 yX6_checkArgument, Cond.static yX6_checkArgument, Cond.initialized RX6, Cond.code yX6_checkArgument cX6_checkArgument 3 none, Cond.classLink RX6 176 "java/lang/IllegalArgumentException", Cond.initialized "java/lang/IllegalArgumentException", Cond.methodLink RX6 101 yX6_prioritiesOf, Cond.instanceMethod yX6_prioritiesOf, Cond.selects RX6 yX6_prioritiesOf yX6_prioritiesOf, Cond.code yX6_prioritiesOf cX6_prioritiesOf 2 (some (.object "ReservoirReed$Priorities")), Cond.fieldLink RX6 22 "ReservoirReed" "mergedPriorities" "LReservoirReed$Priorities;", Cond.fieldLink RX6 155 "ReservoirReed" "size" "I", Cond.fieldLink RX6 10 "ReservoirReed" "stream0" "LReservoirReed$Stream;", Cond.fieldLink RX6 16 "ReservoirReed" "stream1" "LReservoirReed$Stream;", Cond.methodLink RX6 45 yX6_streamOf, Cond.instanceMethod yX6_streamOf, Cond.selects RX6 yX6_streamOf yX6_streamOf, Cond.code yX6_streamOf cX6_streamOf 2 (some (.object "ReservoirReed$Stream")), Cond.methodLink RX6 162 yX3_startAgain, Cond.instanceMethod yX3_startAgain, Cond.selects RX3 yX3_startAgain yX3_startAgain, Cond.initialized RX3, Cond.code yX3_startAgain cX3_startAgain 2 none, Cond.fieldLink RX3 24 "ReservoirReed$Priorities" "size" "I"]
def wsX6_estimate_r2 : List Cond := [Cond.fieldLink RX3 28 "ReservoirReed$Priorities" "held" "I", Cond.methodLink RX6 165 yX3_addAll, Cond.instanceMethod yX3_addAll, Cond.selects RX3 yX3_addAll yX3_addAll, Cond.code yX3_addAll cX3_addAll 4 none, Cond.fieldLink RX3 9 "ReservoirReed$Priorities" "items" "[I", Cond.fieldLink RX3 15 "ReservoirReed$Priorities" "weights" "[I", Cond.fieldLink RX3 18 "ReservoirReed$Priorities" "groups" "[I", Cond.fieldLink RX3 21 "ReservoirReed$Priorities" "dice" "[I", Cond.static yX6_at, Cond.code yX6_at cX6_at 2 (some .int), Cond.methodLink RX3 35 yX3_add, Cond.instanceMethod yX3_add, Cond.selects RX3 yX3_add yX3_add, Cond.code yX3_add cX3_add 6 none, Cond.methodLink RX3 43 Lib.Math.min.name, Cond.static Lib.Math.min.name, Cond.initialized "java/lang/Math", Cond.code Lib.Math.min.name Lib.Math.min.code 2 (some .int), Cond.methodLink RX3 39 yX3_placeFor, Cond.instanceMethod yX3_placeFor, Cond.selects RX3 yX3_placeFor yX3_placeFor, Cond.code yX3_placeFor cX3_placeFor 4 (some .int), Cond.methodLink RX3 52 yX3_isGreater]
def wsX6_estimate_r3 : List Cond := [Cond.instanceMethod yX3_isGreater, Cond.selects RX3 yX3_isGreater yX3_isGreater, Cond.code yX3_isGreater cX3_isGreater 4 (some .boolean), Cond.static yX6_insert, Cond.code yX6_insert cX6_insert 5 none, Cond.methodLink RX6 90 yX6_at, Cond.methodLink RX6 193 yX6_put, Cond.static yX6_put, Cond.code yX6_put cX6_put 3 none, Cond.methodLink RX6 117 yX3_estimatedSum, Cond.instanceMethod yX3_estimatedSum, Cond.selects RX3 yX3_estimatedSum yX3_estimatedSum, Cond.code yX3_estimatedSum cX3_estimatedSum 6 (some .long), Cond.methodLink RX3 67 yX3_sampled, Cond.instanceMethod yX3_sampled, Cond.selects RX3 yX3_sampled yX3_sampled, Cond.code yX3_sampled cX3_sampled 1 (some .int), Cond.methodLink RX3 71 yX3_estimateAt, Cond.instanceMethod yX3_estimateAt, Cond.selects RX3 yX3_estimateAt yX3_estimateAt, Cond.code yX3_estimateAt cX3_estimateAt 2 (some .long), Cond.methodLink RX3 64 Lib.MathLoose.max_long.x, Cond.static Lib.MathLoose.max_long.x, Cond.code Lib.MathLoose.max_long.x Lib.MathLoose.max_long.code 4 (some .long)]
def wsX6_estimate_r4 : List Cond := [Cond.methodLink RX3 60 yX3_bound, Cond.instanceMethod yX3_bound, Cond.selects RX3 yX3_bound yX3_bound, Cond.code yX3_bound cX3_bound 3 (some .long), Cond.static yX6_quotient, Cond.code yX6_quotient cX6_quotient 4 (some .long)]
def wsX6_estimate : List Cond := .code yX6_estimate cX6_estimate 3 (some .long) :: ((wsX6_estimate_r1 ++ (wsX6_estimate_r2 ++ (wsX6_estimate_r3 ++ wsX6_estimate_r4))) ++ wsX50 ++ wsX60 ++ wsX30 ++ (vx_atS RX6 180 "java/lang/IllegalArgumentException" ["java/lang/RuntimeException", "java/lang/Exception"]).filter goodWord)
def wsX6_sampledWeight_r1 : List Cond := [Cond.methodLink RX6 37 yX6_checkArgument, Cond.static yX6_checkArgument, Cond.initialized RX6, Cond.code yX6_checkArgument cX6_checkArgument 3 none, Cond.classLink RX6 176 "java/lang/IllegalArgumentException", Cond.initialized "java/lang/IllegalArgumentException", Cond.methodLink RX6 101 yX6_prioritiesOf, Cond.instanceMethod yX6_prioritiesOf, Cond.selects RX6 yX6_prioritiesOf yX6_prioritiesOf, Cond.code yX6_prioritiesOf cX6_prioritiesOf 2 (some (.object "ReservoirReed$Priorities")), Cond.fieldLink RX6 22 "ReservoirReed" "mergedPriorities" "LReservoirReed$Priorities;", Cond.fieldLink RX6 155 "ReservoirReed" "size" "I", Cond.fieldLink RX6 10 "ReservoirReed" "stream0" "LReservoirReed$Stream;", Cond.fieldLink RX6 16 "ReservoirReed" "stream1" "LReservoirReed$Stream;", Cond.methodLink RX6 45 yX6_streamOf, Cond.instanceMethod yX6_streamOf, Cond.selects RX6 yX6_streamOf yX6_streamOf, Cond.code yX6_streamOf cX6_streamOf 2 (some (.object "ReservoirReed$Stream")), Cond.methodLink RX6 162 yX3_startAgain, Cond.instanceMethod yX3_startAgain, Cond.selects RX3 yX3_startAgain yX3_startAgain, Cond.initialized RX3, Cond.code yX3_startAgain cX3_startAgain 2 none, Cond.fieldLink RX3 24 "ReservoirReed$Priorities" "size" "I"]
def wsX6_sampledWeight_r2 : List Cond := [Cond.fieldLink RX3 28 "ReservoirReed$Priorities" "held" "I", Cond.methodLink RX6 165 yX3_addAll, Cond.instanceMethod yX3_addAll, Cond.selects RX3 yX3_addAll yX3_addAll, Cond.code yX3_addAll cX3_addAll 4 none, Cond.fieldLink RX3 9 "ReservoirReed$Priorities" "items" "[I", Cond.fieldLink RX3 15 "ReservoirReed$Priorities" "weights" "[I", Cond.fieldLink RX3 18 "ReservoirReed$Priorities" "groups" "[I", Cond.fieldLink RX3 21 "ReservoirReed$Priorities" "dice" "[I", Cond.static yX6_at, Cond.code yX6_at cX6_at 2 (some .int), Cond.methodLink RX3 35 yX3_add, Cond.instanceMethod yX3_add, Cond.selects RX3 yX3_add yX3_add, Cond.code yX3_add cX3_add 6 none, Cond.methodLink RX3 43 Lib.Math.min.name, Cond.static Lib.Math.min.name, Cond.initialized "java/lang/Math", Cond.code Lib.Math.min.name Lib.Math.min.code 2 (some .int), Cond.methodLink RX3 39 yX3_placeFor, Cond.instanceMethod yX3_placeFor, Cond.selects RX3 yX3_placeFor yX3_placeFor, Cond.code yX3_placeFor cX3_placeFor 4 (some .int), Cond.methodLink RX3 52 yX3_isGreater]
def wsX6_sampledWeight_r3 : List Cond := [Cond.instanceMethod yX3_isGreater, Cond.selects RX3 yX3_isGreater yX3_isGreater, Cond.code yX3_isGreater cX3_isGreater 4 (some .boolean), Cond.static yX6_insert, Cond.code yX6_insert cX6_insert 5 none, Cond.methodLink RX6 90 yX6_at, Cond.methodLink RX6 193 yX6_put, Cond.static yX6_put, Cond.code yX6_put cX6_put 3 none, Cond.methodLink RX6 120 yX3_weightSum, Cond.instanceMethod yX3_weightSum, Cond.selects RX3 yX3_weightSum yX3_weightSum, Cond.code yX3_weightSum cX3_weightSum 5 (some .int), Cond.methodLink RX3 67 yX3_sampled, Cond.instanceMethod yX3_sampled, Cond.selects RX3 yX3_sampled yX3_sampled, Cond.code yX3_sampled cX3_sampled 1 (some .int)]
def wsX6_sampledWeight : List Cond := .code yX6_sampledWeight cX6_sampledWeight 3 (some .int) :: ((wsX6_sampledWeight_r1 ++ (wsX6_sampledWeight_r2 ++ wsX6_sampledWeight_r3)) ++ wsX50 ++ wsX60 ++ wsX30 ++ (vx_atS RX6 180 "java/lang/IllegalArgumentException" ["java/lang/RuntimeException", "java/lang/Exception"]).filter goodWord)
def wsX6_distinctOf_r1 : List Cond := [Cond.fieldLink RX6 29 "ReservoirReed" "mergedDistinct" "LReservoirReed$Distinct;", Cond.fieldLink RX6 155 "ReservoirReed" "size" "I", Cond.fieldLink RX6 10 "ReservoirReed" "stream0" "LReservoirReed$Stream;", Cond.fieldLink RX6 16 "ReservoirReed" "stream1" "LReservoirReed$Stream;", Cond.methodLink RX6 45 yX6_streamOf, Cond.instanceMethod yX6_streamOf, Cond.selects RX6 yX6_streamOf yX6_streamOf, Cond.initialized RX6, Cond.code yX6_streamOf cX6_streamOf 2 (some (.object "ReservoirReed$Stream")), Cond.methodLink RX6 172 yX1_startAgain, Cond.instanceMethod yX1_startAgain, Cond.selects RX1 yX1_startAgain yX1_startAgain, Cond.initialized RX1, Cond.code yX1_startAgain cX1_startAgain 2 none, Cond.fieldLink RX1 18 "ReservoirReed$Distinct" "size" "I", Cond.fieldLink RX1 22 "ReservoirReed$Distinct" "held" "I", Cond.methodLink RX6 173 yX1_addAll, Cond.instanceMethod yX1_addAll, Cond.selects RX1 yX1_addAll yX1_addAll, Cond.code yX1_addAll cX1_addAll 4 none, Cond.fieldLink RX1 9 "ReservoirReed$Distinct" "items" "[I", Cond.fieldLink RX1 15 "ReservoirReed$Distinct" "times" "[I", Cond.static yX6_at, Cond.code yX6_at cX6_at 2 (some .int)]
def wsX6_distinctOf_r2 : List Cond := [Cond.methodLink RX1 29 yX1_add, Cond.instanceMethod yX1_add, Cond.selects RX1 yX1_add yX1_add, Cond.code yX1_add cX1_add 4 none, Cond.methodLink RX1 41 Lib.Math.min.name, Cond.static Lib.Math.min.name, Cond.initialized "java/lang/Math", Cond.code Lib.Math.min.name Lib.Math.min.code 2 (some .int), Cond.methodLink RX1 33 yX1_placeFor, Cond.instanceMethod yX1_placeFor, Cond.selects RX1 yX1_placeFor yX1_placeFor, Cond.code yX1_placeFor cX1_placeFor 5 (some .int), Cond.methodLink RX1 51 yX1_hashOf, Cond.static yX1_hashOf, Cond.code yX1_hashOf cX1_hashOf 1 (some .long), Cond.constantLong RX1 55 (2654435761), Cond.constantLong RX1 57 (4294967296), Cond.static yX6_put, Cond.code yX6_put cX6_put 3 none, Cond.static yX6_insert, Cond.code yX6_insert cX6_insert 5 none, Cond.methodLink RX6 90 yX6_at, Cond.methodLink RX6 193 yX6_put]
def wsX6_distinctOf : List Cond := .code yX6_distinctOf cX6_distinctOf 2 (some (.object "ReservoirReed$Distinct")) :: ((wsX6_distinctOf_r1 ++ wsX6_distinctOf_r2) ++ wsX50 ++ wsX60 ++ wsX10)
def wsX6_distinctSize_r1 : List Cond := [Cond.methodLink RX6 37 yX6_checkArgument, Cond.static yX6_checkArgument, Cond.initialized RX6, Cond.code yX6_checkArgument cX6_checkArgument 3 none, Cond.classLink RX6 176 "java/lang/IllegalArgumentException", Cond.initialized "java/lang/IllegalArgumentException", Cond.methodLink RX6 124 yX6_distinctOf, Cond.instanceMethod yX6_distinctOf, Cond.selects RX6 yX6_distinctOf yX6_distinctOf, Cond.code yX6_distinctOf cX6_distinctOf 2 (some (.object "ReservoirReed$Distinct")), Cond.fieldLink RX6 29 "ReservoirReed" "mergedDistinct" "LReservoirReed$Distinct;", Cond.fieldLink RX6 155 "ReservoirReed" "size" "I", Cond.fieldLink RX6 10 "ReservoirReed" "stream0" "LReservoirReed$Stream;", Cond.fieldLink RX6 16 "ReservoirReed" "stream1" "LReservoirReed$Stream;", Cond.methodLink RX6 45 yX6_streamOf, Cond.instanceMethod yX6_streamOf, Cond.selects RX6 yX6_streamOf yX6_streamOf, Cond.code yX6_streamOf cX6_streamOf 2 (some (.object "ReservoirReed$Stream")), Cond.methodLink RX6 172 yX1_startAgain, Cond.instanceMethod yX1_startAgain, Cond.selects RX1 yX1_startAgain yX1_startAgain, Cond.initialized RX1, Cond.code yX1_startAgain cX1_startAgain 2 none, Cond.fieldLink RX1 18 "ReservoirReed$Distinct" "size" "I"]
def wsX6_distinctSize_r2 : List Cond := [Cond.fieldLink RX1 22 "ReservoirReed$Distinct" "held" "I", Cond.methodLink RX6 173 yX1_addAll, Cond.instanceMethod yX1_addAll, Cond.selects RX1 yX1_addAll yX1_addAll, Cond.code yX1_addAll cX1_addAll 4 none, Cond.fieldLink RX1 9 "ReservoirReed$Distinct" "items" "[I", Cond.fieldLink RX1 15 "ReservoirReed$Distinct" "times" "[I", Cond.static yX6_at, Cond.code yX6_at cX6_at 2 (some .int), Cond.methodLink RX1 29 yX1_add, Cond.instanceMethod yX1_add, Cond.selects RX1 yX1_add yX1_add, Cond.code yX1_add cX1_add 4 none, Cond.methodLink RX1 41 Lib.Math.min.name, Cond.static Lib.Math.min.name, Cond.initialized "java/lang/Math", Cond.code Lib.Math.min.name Lib.Math.min.code 2 (some .int), Cond.methodLink RX1 33 yX1_placeFor, Cond.instanceMethod yX1_placeFor, Cond.selects RX1 yX1_placeFor yX1_placeFor, Cond.code yX1_placeFor cX1_placeFor 5 (some .int), Cond.methodLink RX1 51 yX1_hashOf, Cond.static yX1_hashOf, Cond.code yX1_hashOf cX1_hashOf 1 (some .long)]
def wsX6_distinctSize_r3 : List Cond := [Cond.constantLong RX1 55 (2654435761), Cond.constantLong RX1 57 (4294967296), Cond.static yX6_put, Cond.code yX6_put cX6_put 3 none, Cond.static yX6_insert, Cond.code yX6_insert cX6_insert 5 none, Cond.methodLink RX6 90 yX6_at, Cond.methodLink RX6 193 yX6_put]
def wsX6_distinctSize : List Cond := .code yX6_distinctSize cX6_distinctSize 2 (some .int) :: ((wsX6_distinctSize_r1 ++ (wsX6_distinctSize_r2 ++ wsX6_distinctSize_r3)) ++ wsX10 ++ wsX50 ++ wsX60 ++ (vx_atS RX6 180 "java/lang/IllegalArgumentException" ["java/lang/RuntimeException", "java/lang/Exception"]).filter goodWord)
def wsX6_distinctItem_r1 : List Cond := [Cond.methodLink RX6 37 yX6_checkArgument, Cond.static yX6_checkArgument, Cond.initialized RX6, Cond.code yX6_checkArgument cX6_checkArgument 3 none, Cond.classLink RX6 176 "java/lang/IllegalArgumentException", Cond.initialized "java/lang/IllegalArgumentException", Cond.methodLink RX6 124 yX6_distinctOf, Cond.instanceMethod yX6_distinctOf, Cond.selects RX6 yX6_distinctOf yX6_distinctOf, Cond.code yX6_distinctOf cX6_distinctOf 2 (some (.object "ReservoirReed$Distinct")), Cond.fieldLink RX6 29 "ReservoirReed" "mergedDistinct" "LReservoirReed$Distinct;", Cond.fieldLink RX6 155 "ReservoirReed" "size" "I", Cond.fieldLink RX6 10 "ReservoirReed" "stream0" "LReservoirReed$Stream;", Cond.fieldLink RX6 16 "ReservoirReed" "stream1" "LReservoirReed$Stream;", Cond.methodLink RX6 45 yX6_streamOf, Cond.instanceMethod yX6_streamOf, Cond.selects RX6 yX6_streamOf yX6_streamOf, Cond.code yX6_streamOf cX6_streamOf 2 (some (.object "ReservoirReed$Stream")), Cond.methodLink RX6 172 yX1_startAgain, Cond.instanceMethod yX1_startAgain, Cond.selects RX1 yX1_startAgain yX1_startAgain, Cond.initialized RX1, Cond.code yX1_startAgain cX1_startAgain 2 none, Cond.fieldLink RX1 18 "ReservoirReed$Distinct" "size" "I"]
def wsX6_distinctItem_r2 : List Cond := [Cond.fieldLink RX1 22 "ReservoirReed$Distinct" "held" "I", Cond.methodLink RX6 173 yX1_addAll, Cond.instanceMethod yX1_addAll, Cond.selects RX1 yX1_addAll yX1_addAll, Cond.code yX1_addAll cX1_addAll 4 none, Cond.fieldLink RX1 9 "ReservoirReed$Distinct" "items" "[I", Cond.fieldLink RX1 15 "ReservoirReed$Distinct" "times" "[I", Cond.static yX6_at, Cond.code yX6_at cX6_at 2 (some .int), Cond.methodLink RX1 29 yX1_add, Cond.instanceMethod yX1_add, Cond.selects RX1 yX1_add yX1_add, Cond.code yX1_add cX1_add 4 none, Cond.methodLink RX1 41 Lib.Math.min.name, Cond.static Lib.Math.min.name, Cond.initialized "java/lang/Math", Cond.code Lib.Math.min.name Lib.Math.min.code 2 (some .int), Cond.methodLink RX1 33 yX1_placeFor, Cond.instanceMethod yX1_placeFor, Cond.selects RX1 yX1_placeFor yX1_placeFor, Cond.code yX1_placeFor cX1_placeFor 5 (some .int), Cond.methodLink RX1 51 yX1_hashOf, Cond.static yX1_hashOf, Cond.code yX1_hashOf cX1_hashOf 1 (some .long)]
def wsX6_distinctItem_r3 : List Cond := [Cond.constantLong RX1 55 (2654435761), Cond.constantLong RX1 57 (4294967296), Cond.static yX6_put, Cond.code yX6_put cX6_put 3 none, Cond.static yX6_insert, Cond.code yX6_insert cX6_insert 5 none, Cond.methodLink RX6 90 yX6_at, Cond.methodLink RX6 193 yX6_put, Cond.methodLink RX6 83 yX6_checkPlace, Cond.static yX6_checkPlace, Cond.code yX6_checkPlace cX6_checkPlace 2 none, Cond.classLink RX6 188 "java/lang/IndexOutOfBoundsException", Cond.initialized "java/lang/IndexOutOfBoundsException"]
def wsX6_distinctItem : List Cond := .code yX6_distinctItem cX6_distinctItem 4 (some .int) :: ((wsX6_distinctItem_r1 ++ (wsX6_distinctItem_r2 ++ wsX6_distinctItem_r3)) ++ wsX10 ++ wsX50 ++ wsX60 ++ (vx_atS RX6 180 "java/lang/IllegalArgumentException" ["java/lang/RuntimeException", "java/lang/Exception"]).filter goodWord ++ (vx_atS RX6 192 "java/lang/IndexOutOfBoundsException" ["java/lang/RuntimeException", "java/lang/Exception"]).filter goodWord)
def wsX6_distinctOffers_r1 : List Cond := [Cond.methodLink RX6 37 yX6_checkArgument, Cond.static yX6_checkArgument, Cond.initialized RX6, Cond.code yX6_checkArgument cX6_checkArgument 3 none, Cond.classLink RX6 176 "java/lang/IllegalArgumentException", Cond.initialized "java/lang/IllegalArgumentException", Cond.methodLink RX6 124 yX6_distinctOf, Cond.instanceMethod yX6_distinctOf, Cond.selects RX6 yX6_distinctOf yX6_distinctOf, Cond.code yX6_distinctOf cX6_distinctOf 2 (some (.object "ReservoirReed$Distinct")), Cond.fieldLink RX6 29 "ReservoirReed" "mergedDistinct" "LReservoirReed$Distinct;", Cond.fieldLink RX6 155 "ReservoirReed" "size" "I", Cond.fieldLink RX6 10 "ReservoirReed" "stream0" "LReservoirReed$Stream;", Cond.fieldLink RX6 16 "ReservoirReed" "stream1" "LReservoirReed$Stream;", Cond.methodLink RX6 45 yX6_streamOf, Cond.instanceMethod yX6_streamOf, Cond.selects RX6 yX6_streamOf yX6_streamOf, Cond.code yX6_streamOf cX6_streamOf 2 (some (.object "ReservoirReed$Stream")), Cond.methodLink RX6 172 yX1_startAgain, Cond.instanceMethod yX1_startAgain, Cond.selects RX1 yX1_startAgain yX1_startAgain, Cond.initialized RX1, Cond.code yX1_startAgain cX1_startAgain 2 none, Cond.fieldLink RX1 18 "ReservoirReed$Distinct" "size" "I"]
def wsX6_distinctOffers_r2 : List Cond := [Cond.fieldLink RX1 22 "ReservoirReed$Distinct" "held" "I", Cond.methodLink RX6 173 yX1_addAll, Cond.instanceMethod yX1_addAll, Cond.selects RX1 yX1_addAll yX1_addAll, Cond.code yX1_addAll cX1_addAll 4 none, Cond.fieldLink RX1 9 "ReservoirReed$Distinct" "items" "[I", Cond.fieldLink RX1 15 "ReservoirReed$Distinct" "times" "[I", Cond.static yX6_at, Cond.code yX6_at cX6_at 2 (some .int), Cond.methodLink RX1 29 yX1_add, Cond.instanceMethod yX1_add, Cond.selects RX1 yX1_add yX1_add, Cond.code yX1_add cX1_add 4 none, Cond.methodLink RX1 41 Lib.Math.min.name, Cond.static Lib.Math.min.name, Cond.initialized "java/lang/Math", Cond.code Lib.Math.min.name Lib.Math.min.code 2 (some .int), Cond.methodLink RX1 33 yX1_placeFor, Cond.instanceMethod yX1_placeFor, Cond.selects RX1 yX1_placeFor yX1_placeFor, Cond.code yX1_placeFor cX1_placeFor 5 (some .int), Cond.methodLink RX1 51 yX1_hashOf, Cond.static yX1_hashOf, Cond.code yX1_hashOf cX1_hashOf 1 (some .long)]
def wsX6_distinctOffers_r3 : List Cond := [Cond.constantLong RX1 55 (2654435761), Cond.constantLong RX1 57 (4294967296), Cond.static yX6_put, Cond.code yX6_put cX6_put 3 none, Cond.static yX6_insert, Cond.code yX6_insert cX6_insert 5 none, Cond.methodLink RX6 90 yX6_at, Cond.methodLink RX6 193 yX6_put, Cond.methodLink RX6 83 yX6_checkPlace, Cond.static yX6_checkPlace, Cond.code yX6_checkPlace cX6_checkPlace 2 none, Cond.classLink RX6 188 "java/lang/IndexOutOfBoundsException", Cond.initialized "java/lang/IndexOutOfBoundsException"]
def wsX6_distinctOffers : List Cond := .code yX6_distinctOffers cX6_distinctOffers 4 (some .int) :: ((wsX6_distinctOffers_r1 ++ (wsX6_distinctOffers_r2 ++ wsX6_distinctOffers_r3)) ++ wsX10 ++ wsX50 ++ wsX60 ++ (vx_atS RX6 180 "java/lang/IllegalArgumentException" ["java/lang/RuntimeException", "java/lang/Exception"]).filter goodWord ++ (vx_atS RX6 192 "java/lang/IndexOutOfBoundsException" ["java/lang/RuntimeException", "java/lang/Exception"]).filter goodWord)
def wsX6_distinctEstimate_r1 : List Cond := [Cond.methodLink RX6 37 yX6_checkArgument, Cond.static yX6_checkArgument, Cond.initialized RX6, Cond.code yX6_checkArgument cX6_checkArgument 3 none, Cond.classLink RX6 176 "java/lang/IllegalArgumentException", Cond.initialized "java/lang/IllegalArgumentException", Cond.methodLink RX6 124 yX6_distinctOf, Cond.instanceMethod yX6_distinctOf, Cond.selects RX6 yX6_distinctOf yX6_distinctOf, Cond.code yX6_distinctOf cX6_distinctOf 2 (some (.object "ReservoirReed$Distinct")), Cond.fieldLink RX6 29 "ReservoirReed" "mergedDistinct" "LReservoirReed$Distinct;", Cond.fieldLink RX6 155 "ReservoirReed" "size" "I", Cond.fieldLink RX6 10 "ReservoirReed" "stream0" "LReservoirReed$Stream;", Cond.fieldLink RX6 16 "ReservoirReed" "stream1" "LReservoirReed$Stream;", Cond.methodLink RX6 45 yX6_streamOf, Cond.instanceMethod yX6_streamOf, Cond.selects RX6 yX6_streamOf yX6_streamOf, Cond.code yX6_streamOf cX6_streamOf 2 (some (.object "ReservoirReed$Stream")), Cond.methodLink RX6 172 yX1_startAgain, Cond.instanceMethod yX1_startAgain, Cond.selects RX1 yX1_startAgain yX1_startAgain, Cond.initialized RX1, Cond.code yX1_startAgain cX1_startAgain 2 none, Cond.fieldLink RX1 18 "ReservoirReed$Distinct" "size" "I"]
def wsX6_distinctEstimate_r2 : List Cond := [Cond.fieldLink RX1 22 "ReservoirReed$Distinct" "held" "I", Cond.methodLink RX6 173 yX1_addAll, Cond.instanceMethod yX1_addAll, Cond.selects RX1 yX1_addAll yX1_addAll, Cond.code yX1_addAll cX1_addAll 4 none, Cond.fieldLink RX1 9 "ReservoirReed$Distinct" "items" "[I", Cond.fieldLink RX1 15 "ReservoirReed$Distinct" "times" "[I", Cond.static yX6_at, Cond.code yX6_at cX6_at 2 (some .int), Cond.methodLink RX1 29 yX1_add, Cond.instanceMethod yX1_add, Cond.selects RX1 yX1_add yX1_add, Cond.code yX1_add cX1_add 4 none, Cond.methodLink RX1 41 Lib.Math.min.name, Cond.static Lib.Math.min.name, Cond.initialized "java/lang/Math", Cond.code Lib.Math.min.name Lib.Math.min.code 2 (some .int), Cond.methodLink RX1 33 yX1_placeFor, Cond.instanceMethod yX1_placeFor, Cond.selects RX1 yX1_placeFor yX1_placeFor, Cond.code yX1_placeFor cX1_placeFor 5 (some .int), Cond.methodLink RX1 51 yX1_hashOf, Cond.static yX1_hashOf, Cond.code yX1_hashOf cX1_hashOf 1 (some .long)]
def wsX6_distinctEstimate_r3 : List Cond := [Cond.constantLong RX1 55 (2654435761), Cond.constantLong RX1 57 (4294967296), Cond.static yX6_put, Cond.code yX6_put cX6_put 3 none, Cond.static yX6_insert, Cond.code yX6_insert cX6_insert 5 none, Cond.methodLink RX6 90 yX6_at, Cond.methodLink RX6 193 yX6_put, Cond.methodLink RX6 135 yX1_estimatedCount, Cond.instanceMethod yX1_estimatedCount, Cond.selects RX1 yX1_estimatedCount yX1_estimatedCount, Cond.code yX1_estimatedCount cX1_estimatedCount 1 (some .long), Cond.static yX6_quotient, Cond.code yX6_quotient cX6_quotient 4 (some .long)]
def wsX6_distinctEstimate : List Cond := .code yX6_distinctEstimate cX6_distinctEstimate 2 (some .long) :: ((wsX6_distinctEstimate_r1 ++ (wsX6_distinctEstimate_r2 ++ wsX6_distinctEstimate_r3)) ++ wsX50 ++ wsX60 ++ wsX10 ++ (vx_atS RX6 180 "java/lang/IllegalArgumentException" ["java/lang/RuntimeException", "java/lang/Exception"]).filter goodWord)
def wsX6_windowItem : List Cond := .code yX6_windowItem cX6_windowItem 3 (some .int) :: ([.methodLink RX6 37 yX6_checkArgument, .static yX6_checkArgument, .initialized RX6, .code yX6_checkArgument cX6_checkArgument 3 none, .classLink RX6 176 "java/lang/IllegalArgumentException", .initialized "java/lang/IllegalArgumentException", .methodLink RX6 45 yX6_streamOf, .instanceMethod yX6_streamOf, .selects RX6 yX6_streamOf yX6_streamOf, .code yX6_streamOf cX6_streamOf 2 (some (.object "ReservoirReed$Stream")), .fieldLink RX6 10 "ReservoirReed" "stream0" "LReservoirReed$Stream;", .fieldLink RX6 16 "ReservoirReed" "stream1" "LReservoirReed$Stream;", .methodLink RX6 53 yX6_checkState, .static yX6_checkState, .code yX6_checkState cX6_checkState 1 none, .classLink RX6 183 "java/lang/IllegalStateException", .initialized "java/lang/IllegalStateException", .methodLink RX6 90 yX6_at, .static yX6_at, .code yX6_at cX6_at 2 (some .int)] ++ wsX50 ++ wsX00 ++ wsX60 ++ (vx_atS RX6 180 "java/lang/IllegalArgumentException" ["java/lang/RuntimeException", "java/lang/Exception"]).filter goodWord ++ (vx_atS RX6 187 "java/lang/IllegalStateException" ["java/lang/RuntimeException", "java/lang/Exception"]).filter goodWord)
def wsX6_windowPosition : List Cond := .code yX6_windowPosition cX6_windowPosition 3 (some .int) :: ([.methodLink RX6 37 yX6_checkArgument, .static yX6_checkArgument, .initialized RX6, .code yX6_checkArgument cX6_checkArgument 3 none, .classLink RX6 176 "java/lang/IllegalArgumentException", .initialized "java/lang/IllegalArgumentException", .methodLink RX6 45 yX6_streamOf, .instanceMethod yX6_streamOf, .selects RX6 yX6_streamOf yX6_streamOf, .code yX6_streamOf cX6_streamOf 2 (some (.object "ReservoirReed$Stream")), .fieldLink RX6 10 "ReservoirReed" "stream0" "LReservoirReed$Stream;", .fieldLink RX6 16 "ReservoirReed" "stream1" "LReservoirReed$Stream;", .methodLink RX6 53 yX6_checkState, .static yX6_checkState, .code yX6_checkState cX6_checkState 1 none, .classLink RX6 183 "java/lang/IllegalStateException", .initialized "java/lang/IllegalStateException", .methodLink RX6 90 yX6_at, .static yX6_at, .code yX6_at cX6_at 2 (some .int)] ++ wsX50 ++ wsX00 ++ wsX60 ++ (vx_atS RX6 180 "java/lang/IllegalArgumentException" ["java/lang/RuntimeException", "java/lang/Exception"]).filter goodWord ++ (vx_atS RX6 187 "java/lang/IllegalStateException" ["java/lang/RuntimeException", "java/lang/Exception"]).filter goodWord)
def wsX6_chainLength : List Cond := .code yX6_chainLength cX6_chainLength 2 (some .int) :: ([.methodLink RX6 37 yX6_checkArgument, .static yX6_checkArgument, .initialized RX6, .code yX6_checkArgument cX6_checkArgument 3 none, .classLink RX6 176 "java/lang/IllegalArgumentException", .initialized "java/lang/IllegalArgumentException", .methodLink RX6 45 yX6_streamOf, .instanceMethod yX6_streamOf, .selects RX6 yX6_streamOf yX6_streamOf, .code yX6_streamOf cX6_streamOf 2 (some (.object "ReservoirReed$Stream")), .fieldLink RX6 10 "ReservoirReed" "stream0" "LReservoirReed$Stream;", .fieldLink RX6 16 "ReservoirReed" "stream1" "LReservoirReed$Stream;", .methodLink RX6 149 yX0_length, .instanceMethod yX0_length, .selects RX0 yX0_length yX0_length, .initialized RX0, .code yX0_length cX0_length 1 (some .int), .fieldLink RX0 25 "ReservoirReed$Chain" "end" "I", .fieldLink RX0 22 "ReservoirReed$Chain" "start" "I"] ++ wsX50 ++ wsX60 ++ wsX00 ++ (vx_atS RX6 180 "java/lang/IllegalArgumentException" ["java/lang/RuntimeException", "java/lang/Exception"]).filter goodWord)
def wsX6_successor : List Cond := .code yX6_successor cX6_successor 3 (some .int) :: ([.methodLink RX6 37 yX6_checkArgument, .static yX6_checkArgument, .initialized RX6, .code yX6_checkArgument cX6_checkArgument 3 none, .classLink RX6 176 "java/lang/IllegalArgumentException", .initialized "java/lang/IllegalArgumentException", .methodLink RX6 45 yX6_streamOf, .instanceMethod yX6_streamOf, .selects RX6 yX6_streamOf yX6_streamOf, .code yX6_streamOf cX6_streamOf 2 (some (.object "ReservoirReed$Stream")), .fieldLink RX6 10 "ReservoirReed" "stream0" "LReservoirReed$Stream;", .fieldLink RX6 16 "ReservoirReed" "stream1" "LReservoirReed$Stream;", .methodLink RX6 53 yX6_checkState, .static yX6_checkState, .code yX6_checkState cX6_checkState 1 none, .classLink RX6 183 "java/lang/IllegalStateException", .initialized "java/lang/IllegalStateException"] ++ wsX50 ++ wsX00 ++ wsX60 ++ (vx_atS RX6 180 "java/lang/IllegalArgumentException" ["java/lang/RuntimeException", "java/lang/Exception"]).filter goodWord ++ (vx_atS RX6 187 "java/lang/IllegalStateException" ["java/lang/RuntimeException", "java/lang/Exception"]).filter goodWord)
def wsX7_init : List Cond := .code yX7_init cX7_init 1 none :: ([.methodLink RX7 1 objectInit, .instanceMethod objectInit, .code objectInit ⟨#[0xb1]⟩ 1 none, .fieldLink RX7 7 "ReservoirReedModel" "size" "I", .fieldLink RX7 13 "ReservoirReedModel" "window" "I", .arrayClass .int, .fieldLink RX7 16 "ReservoirReedModel" "many" "[I", .fieldLink RX7 20 "ReservoirReedModel" "items" "[I", .fieldLink RX7 23 "ReservoirReedModel" "weights" "[I", .fieldLink RX7 26 "ReservoirReedModel" "groups" "[I", .fieldLink RX7 29 "ReservoirReedModel" "firsts" "[I", .fieldLink RX7 32 "ReservoirReedModel" "seconds" "[I", .arrayClass .boolean, .fieldLink RX7 35 "ReservoirReedModel" "isNew" "[Z", .fieldLink RX7 39 "ReservoirReedModel" "chain" "[I"] ++ wsX70)
def wsX7_thrown : List Cond := .code yX7_thrown cX7_thrown 1 (some .int) :: ([.fieldLink RX7 42 "ReservoirReedModel" "refusal" "I"] ++ wsX70)
def wsX7_refused : List Cond := .code yX7_refused cX7_refused 2 (some .boolean) :: ([.fieldLink RX7 42 "ReservoirReedModel" "refusal" "I"] ++ wsX70)
def wsX7_in : List Cond := .code yX7_in cX7_in 3 (some .boolean) :: ([])
def wsX7_noStream : List Cond := .code yX7_noStream cX7_noStream 3 (some .boolean) :: ([.methodLink RX7 45 yX7_in, .static yX7_in, .initialized RX7, .code yX7_in cX7_in 3 (some .boolean), .methodLink RX7 49 yX7_refused, .instanceMethod yX7_refused, .selects RX7 yX7_refused yX7_refused, .code yX7_refused cX7_refused 2 (some .boolean), .fieldLink RX7 42 "ReservoirReedModel" "refusal" "I"] ++ wsX70)
def wsX7_noGroup : List Cond := .code yX7_noGroup cX7_noGroup 4 (some .boolean) :: ([.methodLink RX7 45 yX7_in, .static yX7_in, .initialized RX7, .code yX7_in cX7_in 3 (some .boolean), .methodLink RX7 49 yX7_refused, .instanceMethod yX7_refused, .selects RX7 yX7_refused yX7_refused, .code yX7_refused cX7_refused 2 (some .boolean), .fieldLink RX7 42 "ReservoirReedModel" "refusal" "I"] ++ wsX70)
def wsX7_begin : List Cond := .code yX7_begin cX7_begin 3 none :: ([.fieldLink RX7 7 "ReservoirReedModel" "size" "I", .fieldLink RX7 13 "ReservoirReedModel" "window" "I", .fieldLink RX7 16 "ReservoirReedModel" "many" "[I", .methodLink RX7 45 yX7_in, .static yX7_in, .initialized RX7, .code yX7_in cX7_in 3 (some .boolean), .methodLink RX7 49 yX7_refused, .instanceMethod yX7_refused, .selects RX7 yX7_refused yX7_refused, .code yX7_refused cX7_refused 2 (some .boolean), .fieldLink RX7 42 "ReservoirReedModel" "refusal" "I"] ++ wsX70)
def wsX7_offer : List Cond := .code yX7_offer cX7_offer 9 (some .int) :: ([.constant RX7 53 (1000000), .fieldLink RX7 16 "ReservoirReedModel" "many" "[I", .fieldLink RX7 20 "ReservoirReedModel" "items" "[I", .fieldLink RX7 23 "ReservoirReedModel" "weights" "[I", .fieldLink RX7 26 "ReservoirReedModel" "groups" "[I", .fieldLink RX7 29 "ReservoirReedModel" "firsts" "[I", .fieldLink RX7 32 "ReservoirReedModel" "seconds" "[I", .methodLink RX7 45 yX7_in, .static yX7_in, .initialized RX7, .code yX7_in cX7_in 3 (some .boolean), .methodLink RX7 49 yX7_refused, .instanceMethod yX7_refused, .selects RX7 yX7_refused yX7_refused, .code yX7_refused cX7_refused 2 (some .boolean), .fieldLink RX7 42 "ReservoirReedModel" "refusal" "I"] ++ wsX70)
def wsX7_clear : List Cond := .code yX7_clear cX7_clear 3 (some .int) :: ([.fieldLink RX7 16 "ReservoirReedModel" "many" "[I", .methodLink RX7 54 yX7_noStream, .instanceMethod yX7_noStream, .selects RX7 yX7_noStream yX7_noStream, .initialized RX7, .code yX7_noStream cX7_noStream 3 (some .boolean), .methodLink RX7 45 yX7_in, .static yX7_in, .code yX7_in cX7_in 3 (some .boolean), .methodLink RX7 49 yX7_refused, .instanceMethod yX7_refused, .selects RX7 yX7_refused yX7_refused, .code yX7_refused cX7_refused 2 (some .boolean), .fieldLink RX7 42 "ReservoirReedModel" "refusal" "I"] ++ wsX70)
def wsX7_offers : List Cond := .code yX7_offers cX7_offers 2 (some .int) :: ([.fieldLink RX7 16 "ReservoirReedModel" "many" "[I", .methodLink RX7 54 yX7_noStream, .instanceMethod yX7_noStream, .selects RX7 yX7_noStream yX7_noStream, .initialized RX7, .code yX7_noStream cX7_noStream 3 (some .boolean), .methodLink RX7 45 yX7_in, .static yX7_in, .code yX7_in cX7_in 3 (some .boolean), .methodLink RX7 49 yX7_refused, .instanceMethod yX7_refused, .selects RX7 yX7_refused yX7_refused, .code yX7_refused cX7_refused 2 (some .boolean), .fieldLink RX7 42 "ReservoirReedModel" "refusal" "I"] ++ wsX70)
def wsX7_isOf : List Cond := .code yX7_isOf cX7_isOf 4 (some .boolean) :: ([.fieldLink RX7 16 "ReservoirReedModel" "many" "[I"] ++ wsX70)
def wsX7_exactWeight : List Cond := .code yX7_exactWeight cX7_exactWeight 5 (some .int) :: ([.fieldLink RX7 26 "ReservoirReedModel" "groups" "[I", .fieldLink RX7 23 "ReservoirReedModel" "weights" "[I", .methodLink RX7 58 yX7_noGroup, .instanceMethod yX7_noGroup, .selects RX7 yX7_noGroup yX7_noGroup, .initialized RX7, .code yX7_noGroup cX7_noGroup 4 (some .boolean), .methodLink RX7 45 yX7_in, .static yX7_in, .code yX7_in cX7_in 3 (some .boolean), .methodLink RX7 49 yX7_refused, .instanceMethod yX7_refused, .selects RX7 yX7_refused yX7_refused, .code yX7_refused cX7_refused 2 (some .boolean), .fieldLink RX7 42 "ReservoirReedModel" "refusal" "I", .methodLink RX7 61 yX7_isOf, .instanceMethod yX7_isOf, .selects RX7 yX7_isOf yX7_isOf, .code yX7_isOf cX7_isOf 4 (some .boolean), .fieldLink RX7 16 "ReservoirReedModel" "many" "[I"] ++ wsX70)
def wsX7_inSlot : List Cond := .code yX7_inSlot cX7_inSlot 8 (some .int) :: ([.fieldLink RX7 16 "ReservoirReedModel" "many" "[I", .fieldLink RX7 26 "ReservoirReedModel" "groups" "[I", .fieldLink RX7 7 "ReservoirReedModel" "size" "I", .fieldLink RX7 29 "ReservoirReedModel" "firsts" "[I"] ++ wsX70)
def wsX7_reservoirSize : List Cond := .code yX7_reservoirSize cX7_reservoirSize 2 (some .int) :: ([.fieldLink RX7 16 "ReservoirReedModel" "many" "[I", .fieldLink RX7 7 "ReservoirReedModel" "size" "I", .methodLink RX7 54 yX7_noStream, .instanceMethod yX7_noStream, .selects RX7 yX7_noStream yX7_noStream, .initialized RX7, .code yX7_noStream cX7_noStream 3 (some .boolean), .methodLink RX7 45 yX7_in, .static yX7_in, .code yX7_in cX7_in 3 (some .boolean), .methodLink RX7 49 yX7_refused, .instanceMethod yX7_refused, .selects RX7 yX7_refused yX7_refused, .code yX7_refused cX7_refused 2 (some .boolean), .fieldLink RX7 42 "ReservoirReedModel" "refusal" "I"] ++ wsX70)
def wsX7_slotOf : List Cond := .code yX7_slotOf cX7_slotOf 6 (some .int) :: ([.methodLink RX7 45 yX7_in, .static yX7_in, .initialized RX7, .code yX7_in cX7_in 3 (some .boolean), .methodLink RX7 64 yX7_inSlot, .instanceMethod yX7_inSlot, .selects RX7 yX7_inSlot yX7_inSlot, .code yX7_inSlot cX7_inSlot 8 (some .int), .fieldLink RX7 16 "ReservoirReedModel" "many" "[I", .fieldLink RX7 26 "ReservoirReedModel" "groups" "[I", .fieldLink RX7 7 "ReservoirReedModel" "size" "I", .fieldLink RX7 29 "ReservoirReedModel" "firsts" "[I", .methodLink RX7 49 yX7_refused, .instanceMethod yX7_refused, .selects RX7 yX7_refused yX7_refused, .code yX7_refused cX7_refused 2 (some .boolean), .fieldLink RX7 42 "ReservoirReedModel" "refusal" "I"] ++ wsX70)
def wsX7_reservoirItem : List Cond := .code yX7_reservoirItem cX7_reservoirItem 4 (some .int) :: ([.fieldLink RX7 20 "ReservoirReedModel" "items" "[I", .methodLink RX7 68 yX7_slotOf, .instanceMethod yX7_slotOf, .selects RX7 yX7_slotOf yX7_slotOf, .initialized RX7, .code yX7_slotOf cX7_slotOf 6 (some .int), .methodLink RX7 45 yX7_in, .static yX7_in, .code yX7_in cX7_in 3 (some .boolean), .methodLink RX7 64 yX7_inSlot, .instanceMethod yX7_inSlot, .selects RX7 yX7_inSlot yX7_inSlot, .code yX7_inSlot cX7_inSlot 8 (some .int), .fieldLink RX7 16 "ReservoirReedModel" "many" "[I", .fieldLink RX7 26 "ReservoirReedModel" "groups" "[I", .fieldLink RX7 7 "ReservoirReedModel" "size" "I", .fieldLink RX7 29 "ReservoirReedModel" "firsts" "[I", .methodLink RX7 49 yX7_refused, .instanceMethod yX7_refused, .selects RX7 yX7_refused yX7_refused, .code yX7_refused cX7_refused 2 (some .boolean), .fieldLink RX7 42 "ReservoirReedModel" "refusal" "I"] ++ wsX70)
def wsX7_reservoirPosition : List Cond := .code yX7_reservoirPosition cX7_reservoirPosition 4 (some .int) :: ([.methodLink RX7 68 yX7_slotOf, .instanceMethod yX7_slotOf, .selects RX7 yX7_slotOf yX7_slotOf, .initialized RX7, .code yX7_slotOf cX7_slotOf 6 (some .int), .methodLink RX7 45 yX7_in, .static yX7_in, .code yX7_in cX7_in 3 (some .boolean), .methodLink RX7 64 yX7_inSlot, .instanceMethod yX7_inSlot, .selects RX7 yX7_inSlot yX7_inSlot, .code yX7_inSlot cX7_inSlot 8 (some .int), .fieldLink RX7 16 "ReservoirReedModel" "many" "[I", .fieldLink RX7 26 "ReservoirReedModel" "groups" "[I", .fieldLink RX7 7 "ReservoirReedModel" "size" "I", .fieldLink RX7 29 "ReservoirReedModel" "firsts" "[I", .methodLink RX7 49 yX7_refused, .instanceMethod yX7_refused, .selects RX7 yX7_refused yX7_refused, .code yX7_refused cX7_refused 2 (some .boolean), .fieldLink RX7 42 "ReservoirReedModel" "refusal" "I"] ++ wsX70)
def wsX7_groupOffers : List Cond := .code yX7_groupOffers cX7_groupOffers 5 (some .int) :: ([.fieldLink RX7 26 "ReservoirReedModel" "groups" "[I", .methodLink RX7 58 yX7_noGroup, .instanceMethod yX7_noGroup, .selects RX7 yX7_noGroup yX7_noGroup, .initialized RX7, .code yX7_noGroup cX7_noGroup 4 (some .boolean), .methodLink RX7 45 yX7_in, .static yX7_in, .code yX7_in cX7_in 3 (some .boolean), .methodLink RX7 49 yX7_refused, .instanceMethod yX7_refused, .selects RX7 yX7_refused yX7_refused, .code yX7_refused cX7_refused 2 (some .boolean), .fieldLink RX7 42 "ReservoirReedModel" "refusal" "I", .methodLink RX7 61 yX7_isOf, .instanceMethod yX7_isOf, .selects RX7 yX7_isOf yX7_isOf, .code yX7_isOf cX7_isOf 4 (some .boolean), .fieldLink RX7 16 "ReservoirReedModel" "many" "[I"] ++ wsX70)
def wsX7_groupItem_r1 : List Cond := [Cond.fieldLink RX7 20 "ReservoirReedModel" "items" "[I", Cond.methodLink RX7 58 yX7_noGroup, Cond.instanceMethod yX7_noGroup, Cond.selects RX7 yX7_noGroup yX7_noGroup, Cond.initialized RX7, Cond.code yX7_noGroup cX7_noGroup 4 (some .boolean), Cond.methodLink RX7 45 yX7_in, Cond.static yX7_in, Cond.code yX7_in cX7_in 3 (some .boolean), Cond.methodLink RX7 49 yX7_refused, Cond.instanceMethod yX7_refused, Cond.selects RX7 yX7_refused yX7_refused, Cond.code yX7_refused cX7_refused 2 (some .boolean), Cond.fieldLink RX7 42 "ReservoirReedModel" "refusal" "I", Cond.methodLink RX7 68 yX7_slotOf, Cond.instanceMethod yX7_slotOf, Cond.selects RX7 yX7_slotOf yX7_slotOf, Cond.code yX7_slotOf cX7_slotOf 6 (some .int), Cond.methodLink RX7 64 yX7_inSlot, Cond.instanceMethod yX7_inSlot, Cond.selects RX7 yX7_inSlot yX7_inSlot, Cond.code yX7_inSlot cX7_inSlot 8 (some .int), Cond.fieldLink RX7 16 "ReservoirReedModel" "many" "[I", Cond.fieldLink RX7 26 "ReservoirReedModel" "groups" "[I"]
def wsX7_groupItem_r2 : List Cond := [Cond.fieldLink RX7 7 "ReservoirReedModel" "size" "I", Cond.fieldLink RX7 29 "ReservoirReedModel" "firsts" "[I"]
def wsX7_groupItem : List Cond := .code yX7_groupItem cX7_groupItem 5 (some .int) :: ((wsX7_groupItem_r1 ++ wsX7_groupItem_r2) ++ wsX70)
def wsX7_isAhead : List Cond := .code yX7_isAhead cX7_isAhead 7 (some .boolean) :: ([.fieldLink RX7 23 "ReservoirReedModel" "weights" "[I", .fieldLink RX7 29 "ReservoirReedModel" "firsts" "[I"] ++ wsX70)
def wsX7_ranked : List Cond := .code yX7_ranked cX7_ranked 7 (some .int) :: ([.methodLink RX7 61 yX7_isOf, .instanceMethod yX7_isOf, .selects RX7 yX7_isOf yX7_isOf, .initialized RX7, .code yX7_isOf cX7_isOf 4 (some .boolean), .fieldLink RX7 16 "ReservoirReedModel" "many" "[I", .methodLink RX7 71 yX7_isAhead, .instanceMethod yX7_isAhead, .selects RX7 yX7_isAhead yX7_isAhead, .code yX7_isAhead cX7_isAhead 7 (some .boolean), .fieldLink RX7 23 "ReservoirReedModel" "weights" "[I", .fieldLink RX7 29 "ReservoirReedModel" "firsts" "[I"] ++ wsX70)
def wsX7_all : List Cond := .code yX7_all cX7_all 2 (some .int) :: ([.fieldLink RX7 16 "ReservoirReedModel" "many" "[I"] ++ wsX70)
def wsX7_sampled : List Cond := .code yX7_sampled cX7_sampled 2 (some .int) :: ([.fieldLink RX7 7 "ReservoirReedModel" "size" "I", .methodLink RX7 74 yX7_all, .instanceMethod yX7_all, .selects RX7 yX7_all yX7_all, .initialized RX7, .code yX7_all cX7_all 2 (some .int), .fieldLink RX7 16 "ReservoirReedModel" "many" "[I"] ++ wsX70)
def wsX7_thresholdOf : List Cond := .code yX7_thresholdOf cX7_thresholdOf 3 (some .long) :: ([.fieldLink RX7 7 "ReservoirReedModel" "size" "I", .fieldLink RX7 23 "ReservoirReedModel" "weights" "[I", .constantLong RX7 82 (2147483648), .fieldLink RX7 29 "ReservoirReedModel" "firsts" "[I", .methodLink RX7 78 yX7_ranked, .instanceMethod yX7_ranked, .selects RX7 yX7_ranked yX7_ranked, .initialized RX7, .code yX7_ranked cX7_ranked 7 (some .int), .methodLink RX7 61 yX7_isOf, .instanceMethod yX7_isOf, .selects RX7 yX7_isOf yX7_isOf, .code yX7_isOf cX7_isOf 4 (some .boolean), .fieldLink RX7 16 "ReservoirReedModel" "many" "[I", .methodLink RX7 71 yX7_isAhead, .instanceMethod yX7_isAhead, .selects RX7 yX7_isAhead yX7_isAhead, .code yX7_isAhead cX7_isAhead 7 (some .boolean)] ++ wsX70)
def wsX7_prioritySize : List Cond := .code yX7_prioritySize cX7_prioritySize 2 (some .int) :: ([.methodLink RX7 54 yX7_noStream, .instanceMethod yX7_noStream, .selects RX7 yX7_noStream yX7_noStream, .initialized RX7, .code yX7_noStream cX7_noStream 3 (some .boolean), .methodLink RX7 45 yX7_in, .static yX7_in, .code yX7_in cX7_in 3 (some .boolean), .methodLink RX7 49 yX7_refused, .instanceMethod yX7_refused, .selects RX7 yX7_refused yX7_refused, .code yX7_refused cX7_refused 2 (some .boolean), .fieldLink RX7 42 "ReservoirReedModel" "refusal" "I", .methodLink RX7 84 yX7_sampled, .instanceMethod yX7_sampled, .selects RX7 yX7_sampled yX7_sampled, .code yX7_sampled cX7_sampled 2 (some .int), .fieldLink RX7 7 "ReservoirReedModel" "size" "I", .methodLink RX7 74 yX7_all, .instanceMethod yX7_all, .selects RX7 yX7_all yX7_all, .code yX7_all cX7_all 2 (some .int), .fieldLink RX7 16 "ReservoirReedModel" "many" "[I"] ++ wsX70)
def wsX7_noPlace : List Cond := .code yX7_noPlace cX7_noPlace 3 (some .boolean) :: ([.methodLink RX7 45 yX7_in, .static yX7_in, .initialized RX7, .code yX7_in cX7_in 3 (some .boolean), .methodLink RX7 84 yX7_sampled, .instanceMethod yX7_sampled, .selects RX7 yX7_sampled yX7_sampled, .code yX7_sampled cX7_sampled 2 (some .int), .fieldLink RX7 7 "ReservoirReedModel" "size" "I", .methodLink RX7 74 yX7_all, .instanceMethod yX7_all, .selects RX7 yX7_all yX7_all, .code yX7_all cX7_all 2 (some .int), .fieldLink RX7 16 "ReservoirReedModel" "many" "[I", .methodLink RX7 49 yX7_refused, .instanceMethod yX7_refused, .selects RX7 yX7_refused yX7_refused, .code yX7_refused cX7_refused 2 (some .boolean), .fieldLink RX7 42 "ReservoirReedModel" "refusal" "I"] ++ wsX70)
def wsX7_priorityItem_r1 : List Cond := [Cond.fieldLink RX7 20 "ReservoirReedModel" "items" "[I", Cond.methodLink RX7 87 yX7_noPlace, Cond.instanceMethod yX7_noPlace, Cond.selects RX7 yX7_noPlace yX7_noPlace, Cond.initialized RX7, Cond.code yX7_noPlace cX7_noPlace 3 (some .boolean), Cond.methodLink RX7 45 yX7_in, Cond.static yX7_in, Cond.code yX7_in cX7_in 3 (some .boolean), Cond.methodLink RX7 84 yX7_sampled, Cond.instanceMethod yX7_sampled, Cond.selects RX7 yX7_sampled yX7_sampled, Cond.code yX7_sampled cX7_sampled 2 (some .int), Cond.fieldLink RX7 7 "ReservoirReedModel" "size" "I", Cond.methodLink RX7 74 yX7_all, Cond.instanceMethod yX7_all, Cond.selects RX7 yX7_all yX7_all, Cond.code yX7_all cX7_all 2 (some .int), Cond.fieldLink RX7 16 "ReservoirReedModel" "many" "[I", Cond.methodLink RX7 49 yX7_refused, Cond.instanceMethod yX7_refused, Cond.selects RX7 yX7_refused yX7_refused, Cond.code yX7_refused cX7_refused 2 (some .boolean), Cond.fieldLink RX7 42 "ReservoirReedModel" "refusal" "I"]
def wsX7_priorityItem_r2 : List Cond := [Cond.methodLink RX7 78 yX7_ranked, Cond.instanceMethod yX7_ranked, Cond.selects RX7 yX7_ranked yX7_ranked, Cond.code yX7_ranked cX7_ranked 7 (some .int), Cond.methodLink RX7 61 yX7_isOf, Cond.instanceMethod yX7_isOf, Cond.selects RX7 yX7_isOf yX7_isOf, Cond.code yX7_isOf cX7_isOf 4 (some .boolean), Cond.methodLink RX7 71 yX7_isAhead, Cond.instanceMethod yX7_isAhead, Cond.selects RX7 yX7_isAhead yX7_isAhead, Cond.code yX7_isAhead cX7_isAhead 7 (some .boolean), Cond.fieldLink RX7 23 "ReservoirReedModel" "weights" "[I", Cond.fieldLink RX7 29 "ReservoirReedModel" "firsts" "[I"]
def wsX7_priorityItem : List Cond := .code yX7_priorityItem cX7_priorityItem 3 (some .int) :: ((wsX7_priorityItem_r1 ++ wsX7_priorityItem_r2) ++ wsX70)
def wsX7_estimatedWeight_r1 : List Cond := [Cond.fieldLink RX7 23 "ReservoirReedModel" "weights" "[I", Cond.methodLink RX7 87 yX7_noPlace, Cond.instanceMethod yX7_noPlace, Cond.selects RX7 yX7_noPlace yX7_noPlace, Cond.initialized RX7, Cond.code yX7_noPlace cX7_noPlace 3 (some .boolean), Cond.methodLink RX7 45 yX7_in, Cond.static yX7_in, Cond.code yX7_in cX7_in 3 (some .boolean), Cond.methodLink RX7 84 yX7_sampled, Cond.instanceMethod yX7_sampled, Cond.selects RX7 yX7_sampled yX7_sampled, Cond.code yX7_sampled cX7_sampled 2 (some .int), Cond.fieldLink RX7 7 "ReservoirReedModel" "size" "I", Cond.methodLink RX7 74 yX7_all, Cond.instanceMethod yX7_all, Cond.selects RX7 yX7_all yX7_all, Cond.code yX7_all cX7_all 2 (some .int), Cond.fieldLink RX7 16 "ReservoirReedModel" "many" "[I", Cond.methodLink RX7 49 yX7_refused, Cond.instanceMethod yX7_refused, Cond.selects RX7 yX7_refused yX7_refused, Cond.code yX7_refused cX7_refused 2 (some .boolean), Cond.fieldLink RX7 42 "ReservoirReedModel" "refusal" "I"]
def wsX7_estimatedWeight_r2 : List Cond := [Cond.methodLink RX7 90 yX7_thresholdOf, Cond.instanceMethod yX7_thresholdOf, Cond.selects RX7 yX7_thresholdOf yX7_thresholdOf, Cond.code yX7_thresholdOf cX7_thresholdOf 3 (some .long), Cond.constantLong RX7 82 (2147483648), Cond.fieldLink RX7 29 "ReservoirReedModel" "firsts" "[I", Cond.methodLink RX7 78 yX7_ranked, Cond.instanceMethod yX7_ranked, Cond.selects RX7 yX7_ranked yX7_ranked, Cond.code yX7_ranked cX7_ranked 7 (some .int), Cond.methodLink RX7 61 yX7_isOf, Cond.instanceMethod yX7_isOf, Cond.selects RX7 yX7_isOf yX7_isOf, Cond.code yX7_isOf cX7_isOf 4 (some .boolean), Cond.methodLink RX7 71 yX7_isAhead, Cond.instanceMethod yX7_isAhead, Cond.selects RX7 yX7_isAhead yX7_isAhead, Cond.code yX7_isAhead cX7_isAhead 7 (some .boolean)]
def wsX7_estimatedWeight : List Cond := .code yX7_estimatedWeight cX7_estimatedWeight 6 (some .long) :: ((wsX7_estimatedWeight_r1 ++ wsX7_estimatedWeight_r2) ++ wsX70)
def wsX7_threshold_r1 : List Cond := [Cond.methodLink RX7 54 yX7_noStream, Cond.instanceMethod yX7_noStream, Cond.selects RX7 yX7_noStream yX7_noStream, Cond.initialized RX7, Cond.code yX7_noStream cX7_noStream 3 (some .boolean), Cond.methodLink RX7 45 yX7_in, Cond.static yX7_in, Cond.code yX7_in cX7_in 3 (some .boolean), Cond.methodLink RX7 49 yX7_refused, Cond.instanceMethod yX7_refused, Cond.selects RX7 yX7_refused yX7_refused, Cond.code yX7_refused cX7_refused 2 (some .boolean), Cond.fieldLink RX7 42 "ReservoirReedModel" "refusal" "I", Cond.methodLink RX7 90 yX7_thresholdOf, Cond.instanceMethod yX7_thresholdOf, Cond.selects RX7 yX7_thresholdOf yX7_thresholdOf, Cond.code yX7_thresholdOf cX7_thresholdOf 3 (some .long), Cond.fieldLink RX7 7 "ReservoirReedModel" "size" "I", Cond.fieldLink RX7 23 "ReservoirReedModel" "weights" "[I", Cond.constantLong RX7 82 (2147483648), Cond.fieldLink RX7 29 "ReservoirReedModel" "firsts" "[I", Cond.methodLink RX7 78 yX7_ranked, Cond.instanceMethod yX7_ranked, Cond.selects RX7 yX7_ranked yX7_ranked]
def wsX7_threshold_r2 : List Cond := [Cond.code yX7_ranked cX7_ranked 7 (some .int), Cond.methodLink RX7 61 yX7_isOf, Cond.instanceMethod yX7_isOf, Cond.selects RX7 yX7_isOf yX7_isOf, Cond.code yX7_isOf cX7_isOf 4 (some .boolean), Cond.fieldLink RX7 16 "ReservoirReedModel" "many" "[I", Cond.methodLink RX7 71 yX7_isAhead, Cond.instanceMethod yX7_isAhead, Cond.selects RX7 yX7_isAhead yX7_isAhead, Cond.code yX7_isAhead cX7_isAhead 7 (some .boolean)]
def wsX7_threshold : List Cond := .code yX7_threshold cX7_threshold 2 (some .long) :: ((wsX7_threshold_r1 ++ wsX7_threshold_r2) ++ wsX70)
def wsX7_estimate_r1 : List Cond := [Cond.fieldLink RX7 23 "ReservoirReedModel" "weights" "[I", Cond.fieldLink RX7 26 "ReservoirReedModel" "groups" "[I", Cond.methodLink RX7 58 yX7_noGroup, Cond.instanceMethod yX7_noGroup, Cond.selects RX7 yX7_noGroup yX7_noGroup, Cond.initialized RX7, Cond.code yX7_noGroup cX7_noGroup 4 (some .boolean), Cond.methodLink RX7 45 yX7_in, Cond.static yX7_in, Cond.code yX7_in cX7_in 3 (some .boolean), Cond.methodLink RX7 49 yX7_refused, Cond.instanceMethod yX7_refused, Cond.selects RX7 yX7_refused yX7_refused, Cond.code yX7_refused cX7_refused 2 (some .boolean), Cond.fieldLink RX7 42 "ReservoirReedModel" "refusal" "I", Cond.methodLink RX7 90 yX7_thresholdOf, Cond.instanceMethod yX7_thresholdOf, Cond.selects RX7 yX7_thresholdOf yX7_thresholdOf, Cond.code yX7_thresholdOf cX7_thresholdOf 3 (some .long), Cond.fieldLink RX7 7 "ReservoirReedModel" "size" "I", Cond.constantLong RX7 82 (2147483648), Cond.fieldLink RX7 29 "ReservoirReedModel" "firsts" "[I", Cond.methodLink RX7 78 yX7_ranked, Cond.instanceMethod yX7_ranked]
def wsX7_estimate_r2 : List Cond := [Cond.selects RX7 yX7_ranked yX7_ranked, Cond.code yX7_ranked cX7_ranked 7 (some .int), Cond.methodLink RX7 61 yX7_isOf, Cond.instanceMethod yX7_isOf, Cond.selects RX7 yX7_isOf yX7_isOf, Cond.code yX7_isOf cX7_isOf 4 (some .boolean), Cond.fieldLink RX7 16 "ReservoirReedModel" "many" "[I", Cond.methodLink RX7 71 yX7_isAhead, Cond.instanceMethod yX7_isAhead, Cond.selects RX7 yX7_isAhead yX7_isAhead, Cond.code yX7_isAhead cX7_isAhead 7 (some .boolean), Cond.methodLink RX7 84 yX7_sampled, Cond.instanceMethod yX7_sampled, Cond.selects RX7 yX7_sampled yX7_sampled, Cond.code yX7_sampled cX7_sampled 2 (some .int), Cond.methodLink RX7 74 yX7_all, Cond.instanceMethod yX7_all, Cond.selects RX7 yX7_all yX7_all, Cond.code yX7_all cX7_all 2 (some .int)]
def wsX7_estimate : List Cond := .code yX7_estimate cX7_estimate 11 (some .long) :: ((wsX7_estimate_r1 ++ wsX7_estimate_r2) ++ wsX70)
def wsX7_sampledWeight_r1 : List Cond := [Cond.fieldLink RX7 26 "ReservoirReedModel" "groups" "[I", Cond.fieldLink RX7 23 "ReservoirReedModel" "weights" "[I", Cond.methodLink RX7 58 yX7_noGroup, Cond.instanceMethod yX7_noGroup, Cond.selects RX7 yX7_noGroup yX7_noGroup, Cond.initialized RX7, Cond.code yX7_noGroup cX7_noGroup 4 (some .boolean), Cond.methodLink RX7 45 yX7_in, Cond.static yX7_in, Cond.code yX7_in cX7_in 3 (some .boolean), Cond.methodLink RX7 49 yX7_refused, Cond.instanceMethod yX7_refused, Cond.selects RX7 yX7_refused yX7_refused, Cond.code yX7_refused cX7_refused 2 (some .boolean), Cond.fieldLink RX7 42 "ReservoirReedModel" "refusal" "I", Cond.methodLink RX7 84 yX7_sampled, Cond.instanceMethod yX7_sampled, Cond.selects RX7 yX7_sampled yX7_sampled, Cond.code yX7_sampled cX7_sampled 2 (some .int), Cond.fieldLink RX7 7 "ReservoirReedModel" "size" "I", Cond.methodLink RX7 74 yX7_all, Cond.instanceMethod yX7_all, Cond.selects RX7 yX7_all yX7_all, Cond.code yX7_all cX7_all 2 (some .int)]
def wsX7_sampledWeight_r2 : List Cond := [Cond.fieldLink RX7 16 "ReservoirReedModel" "many" "[I", Cond.methodLink RX7 78 yX7_ranked, Cond.instanceMethod yX7_ranked, Cond.selects RX7 yX7_ranked yX7_ranked, Cond.code yX7_ranked cX7_ranked 7 (some .int), Cond.methodLink RX7 61 yX7_isOf, Cond.instanceMethod yX7_isOf, Cond.selects RX7 yX7_isOf yX7_isOf, Cond.code yX7_isOf cX7_isOf 4 (some .boolean), Cond.methodLink RX7 71 yX7_isAhead, Cond.instanceMethod yX7_isAhead, Cond.selects RX7 yX7_isAhead yX7_isAhead, Cond.code yX7_isAhead cX7_isAhead 7 (some .boolean), Cond.fieldLink RX7 29 "ReservoirReedModel" "firsts" "[I"]
def wsX7_sampledWeight : List Cond := .code yX7_sampledWeight cX7_sampledWeight 6 (some .int) :: ((wsX7_sampledWeight_r1 ++ wsX7_sampledWeight_r2) ++ wsX70)
def wsX7_hash : List Cond := .code yX7_hash cX7_hash 1 (some .long) :: ([.constantLong RX7 94 (2654435761), .constantLong RX7 96 (4294967296)])
def wsX7_distinct : List Cond := .code yX7_distinct cX7_distinct 5 (some .int) :: ([.fieldLink RX7 35 "ReservoirReedModel" "isNew" "[Z", .fieldLink RX7 20 "ReservoirReedModel" "items" "[I", .methodLink RX7 61 yX7_isOf, .instanceMethod yX7_isOf, .selects RX7 yX7_isOf yX7_isOf, .initialized RX7, .code yX7_isOf cX7_isOf 4 (some .boolean), .fieldLink RX7 16 "ReservoirReedModel" "many" "[I"] ++ wsX70)
def wsX7_distinctIn : List Cond := .code yX7_distinctIn cX7_distinctIn 3 (some .int) :: ([.fieldLink RX7 7 "ReservoirReedModel" "size" "I", .methodLink RX7 98 yX7_distinct, .instanceMethod yX7_distinct, .selects RX7 yX7_distinct yX7_distinct, .initialized RX7, .code yX7_distinct cX7_distinct 5 (some .int), .fieldLink RX7 35 "ReservoirReedModel" "isNew" "[Z", .fieldLink RX7 20 "ReservoirReedModel" "items" "[I", .methodLink RX7 61 yX7_isOf, .instanceMethod yX7_isOf, .selects RX7 yX7_isOf yX7_isOf, .code yX7_isOf cX7_isOf 4 (some .boolean), .fieldLink RX7 16 "ReservoirReedModel" "many" "[I"] ++ wsX70)
def wsX7_hashed : List Cond := .code yX7_hashed cX7_hashed 6 (some .int) :: ([.fieldLink RX7 35 "ReservoirReedModel" "isNew" "[Z", .fieldLink RX7 20 "ReservoirReedModel" "items" "[I", .methodLink RX7 101 yX7_hash, .static yX7_hash, .initialized RX7, .code yX7_hash cX7_hash 1 (some .long), .constantLong RX7 94 (2654435761), .constantLong RX7 96 (4294967296)] ++ wsX70)
def wsX7_distinctSize_r1 : List Cond := [Cond.methodLink RX7 54 yX7_noStream, Cond.instanceMethod yX7_noStream, Cond.selects RX7 yX7_noStream yX7_noStream, Cond.initialized RX7, Cond.code yX7_noStream cX7_noStream 3 (some .boolean), Cond.methodLink RX7 45 yX7_in, Cond.static yX7_in, Cond.code yX7_in cX7_in 3 (some .boolean), Cond.methodLink RX7 49 yX7_refused, Cond.instanceMethod yX7_refused, Cond.selects RX7 yX7_refused yX7_refused, Cond.code yX7_refused cX7_refused 2 (some .boolean), Cond.fieldLink RX7 42 "ReservoirReedModel" "refusal" "I", Cond.methodLink RX7 104 yX7_distinctIn, Cond.instanceMethod yX7_distinctIn, Cond.selects RX7 yX7_distinctIn yX7_distinctIn, Cond.code yX7_distinctIn cX7_distinctIn 3 (some .int), Cond.fieldLink RX7 7 "ReservoirReedModel" "size" "I", Cond.methodLink RX7 98 yX7_distinct, Cond.instanceMethod yX7_distinct, Cond.selects RX7 yX7_distinct yX7_distinct, Cond.code yX7_distinct cX7_distinct 5 (some .int), Cond.fieldLink RX7 35 "ReservoirReedModel" "isNew" "[Z", Cond.fieldLink RX7 20 "ReservoirReedModel" "items" "[I"]
def wsX7_distinctSize_r2 : List Cond := [Cond.methodLink RX7 61 yX7_isOf, Cond.instanceMethod yX7_isOf, Cond.selects RX7 yX7_isOf yX7_isOf, Cond.code yX7_isOf cX7_isOf 4 (some .boolean), Cond.fieldLink RX7 16 "ReservoirReedModel" "many" "[I"]
def wsX7_distinctSize : List Cond := .code yX7_distinctSize cX7_distinctSize 2 (some .int) :: ((wsX7_distinctSize_r1 ++ wsX7_distinctSize_r2) ++ wsX70)
def wsX7_distinctAt_r1 : List Cond := [Cond.methodLink RX7 45 yX7_in, Cond.static yX7_in, Cond.initialized RX7, Cond.code yX7_in cX7_in 3 (some .boolean), Cond.methodLink RX7 104 yX7_distinctIn, Cond.instanceMethod yX7_distinctIn, Cond.selects RX7 yX7_distinctIn yX7_distinctIn, Cond.code yX7_distinctIn cX7_distinctIn 3 (some .int), Cond.fieldLink RX7 7 "ReservoirReedModel" "size" "I", Cond.methodLink RX7 98 yX7_distinct, Cond.instanceMethod yX7_distinct, Cond.selects RX7 yX7_distinct yX7_distinct, Cond.code yX7_distinct cX7_distinct 5 (some .int), Cond.fieldLink RX7 35 "ReservoirReedModel" "isNew" "[Z", Cond.fieldLink RX7 20 "ReservoirReedModel" "items" "[I", Cond.methodLink RX7 61 yX7_isOf, Cond.instanceMethod yX7_isOf, Cond.selects RX7 yX7_isOf yX7_isOf, Cond.code yX7_isOf cX7_isOf 4 (some .boolean), Cond.fieldLink RX7 16 "ReservoirReedModel" "many" "[I", Cond.methodLink RX7 49 yX7_refused, Cond.instanceMethod yX7_refused, Cond.selects RX7 yX7_refused yX7_refused, Cond.code yX7_refused cX7_refused 2 (some .boolean)]
def wsX7_distinctAt_r2 : List Cond := [Cond.fieldLink RX7 42 "ReservoirReedModel" "refusal" "I", Cond.methodLink RX7 107 yX7_hashed, Cond.instanceMethod yX7_hashed, Cond.selects RX7 yX7_hashed yX7_hashed, Cond.code yX7_hashed cX7_hashed 6 (some .int), Cond.methodLink RX7 101 yX7_hash, Cond.static yX7_hash, Cond.code yX7_hash cX7_hash 1 (some .long), Cond.constantLong RX7 94 (2654435761), Cond.constantLong RX7 96 (4294967296)]
def wsX7_distinctAt : List Cond := .code yX7_distinctAt cX7_distinctAt 5 (some .int) :: ((wsX7_distinctAt_r1 ++ wsX7_distinctAt_r2) ++ wsX70)
def wsX7_distinctItem_r1 : List Cond := [Cond.fieldLink RX7 20 "ReservoirReedModel" "items" "[I", Cond.methodLink RX7 110 yX7_distinctAt, Cond.instanceMethod yX7_distinctAt, Cond.selects RX7 yX7_distinctAt yX7_distinctAt, Cond.initialized RX7, Cond.code yX7_distinctAt cX7_distinctAt 5 (some .int), Cond.methodLink RX7 45 yX7_in, Cond.static yX7_in, Cond.code yX7_in cX7_in 3 (some .boolean), Cond.methodLink RX7 104 yX7_distinctIn, Cond.instanceMethod yX7_distinctIn, Cond.selects RX7 yX7_distinctIn yX7_distinctIn, Cond.code yX7_distinctIn cX7_distinctIn 3 (some .int), Cond.fieldLink RX7 7 "ReservoirReedModel" "size" "I", Cond.methodLink RX7 98 yX7_distinct, Cond.instanceMethod yX7_distinct, Cond.selects RX7 yX7_distinct yX7_distinct, Cond.code yX7_distinct cX7_distinct 5 (some .int), Cond.fieldLink RX7 35 "ReservoirReedModel" "isNew" "[Z", Cond.methodLink RX7 61 yX7_isOf, Cond.instanceMethod yX7_isOf, Cond.selects RX7 yX7_isOf yX7_isOf, Cond.code yX7_isOf cX7_isOf 4 (some .boolean), Cond.fieldLink RX7 16 "ReservoirReedModel" "many" "[I"]
def wsX7_distinctItem_r2 : List Cond := [Cond.methodLink RX7 49 yX7_refused, Cond.instanceMethod yX7_refused, Cond.selects RX7 yX7_refused yX7_refused, Cond.code yX7_refused cX7_refused 2 (some .boolean), Cond.fieldLink RX7 42 "ReservoirReedModel" "refusal" "I", Cond.methodLink RX7 107 yX7_hashed, Cond.instanceMethod yX7_hashed, Cond.selects RX7 yX7_hashed yX7_hashed, Cond.code yX7_hashed cX7_hashed 6 (some .int), Cond.methodLink RX7 101 yX7_hash, Cond.static yX7_hash, Cond.code yX7_hash cX7_hash 1 (some .long), Cond.constantLong RX7 94 (2654435761), Cond.constantLong RX7 96 (4294967296)]
def wsX7_distinctItem : List Cond := .code yX7_distinctItem cX7_distinctItem 4 (some .int) :: ((wsX7_distinctItem_r1 ++ wsX7_distinctItem_r2) ++ wsX70)
def wsX7_distinctOffers_r1 : List Cond := [Cond.fieldLink RX7 20 "ReservoirReedModel" "items" "[I", Cond.methodLink RX7 110 yX7_distinctAt, Cond.instanceMethod yX7_distinctAt, Cond.selects RX7 yX7_distinctAt yX7_distinctAt, Cond.initialized RX7, Cond.code yX7_distinctAt cX7_distinctAt 5 (some .int), Cond.methodLink RX7 45 yX7_in, Cond.static yX7_in, Cond.code yX7_in cX7_in 3 (some .boolean), Cond.methodLink RX7 104 yX7_distinctIn, Cond.instanceMethod yX7_distinctIn, Cond.selects RX7 yX7_distinctIn yX7_distinctIn, Cond.code yX7_distinctIn cX7_distinctIn 3 (some .int), Cond.fieldLink RX7 7 "ReservoirReedModel" "size" "I", Cond.methodLink RX7 98 yX7_distinct, Cond.instanceMethod yX7_distinct, Cond.selects RX7 yX7_distinct yX7_distinct, Cond.code yX7_distinct cX7_distinct 5 (some .int), Cond.fieldLink RX7 35 "ReservoirReedModel" "isNew" "[Z", Cond.methodLink RX7 61 yX7_isOf, Cond.instanceMethod yX7_isOf, Cond.selects RX7 yX7_isOf yX7_isOf, Cond.code yX7_isOf cX7_isOf 4 (some .boolean), Cond.fieldLink RX7 16 "ReservoirReedModel" "many" "[I"]
def wsX7_distinctOffers_r2 : List Cond := [Cond.methodLink RX7 49 yX7_refused, Cond.instanceMethod yX7_refused, Cond.selects RX7 yX7_refused yX7_refused, Cond.code yX7_refused cX7_refused 2 (some .boolean), Cond.fieldLink RX7 42 "ReservoirReedModel" "refusal" "I", Cond.methodLink RX7 107 yX7_hashed, Cond.instanceMethod yX7_hashed, Cond.selects RX7 yX7_hashed yX7_hashed, Cond.code yX7_hashed cX7_hashed 6 (some .int), Cond.methodLink RX7 101 yX7_hash, Cond.static yX7_hash, Cond.code yX7_hash cX7_hash 1 (some .long), Cond.constantLong RX7 94 (2654435761), Cond.constantLong RX7 96 (4294967296)]
def wsX7_distinctOffers : List Cond := .code yX7_distinctOffers cX7_distinctOffers 6 (some .int) :: ((wsX7_distinctOffers_r1 ++ wsX7_distinctOffers_r2) ++ wsX70)
def wsX7_distinctEstimate_r1 : List Cond := [Cond.fieldLink RX7 7 "ReservoirReedModel" "size" "I", Cond.constantLong RX7 96 (4294967296), Cond.fieldLink RX7 20 "ReservoirReedModel" "items" "[I", Cond.methodLink RX7 54 yX7_noStream, Cond.instanceMethod yX7_noStream, Cond.selects RX7 yX7_noStream yX7_noStream, Cond.initialized RX7, Cond.code yX7_noStream cX7_noStream 3 (some .boolean), Cond.methodLink RX7 45 yX7_in, Cond.static yX7_in, Cond.code yX7_in cX7_in 3 (some .boolean), Cond.methodLink RX7 49 yX7_refused, Cond.instanceMethod yX7_refused, Cond.selects RX7 yX7_refused yX7_refused, Cond.code yX7_refused cX7_refused 2 (some .boolean), Cond.fieldLink RX7 42 "ReservoirReedModel" "refusal" "I", Cond.methodLink RX7 104 yX7_distinctIn, Cond.instanceMethod yX7_distinctIn, Cond.selects RX7 yX7_distinctIn yX7_distinctIn, Cond.code yX7_distinctIn cX7_distinctIn 3 (some .int), Cond.methodLink RX7 98 yX7_distinct, Cond.instanceMethod yX7_distinct, Cond.selects RX7 yX7_distinct yX7_distinct, Cond.code yX7_distinct cX7_distinct 5 (some .int)]
def wsX7_distinctEstimate_r2 : List Cond := [Cond.fieldLink RX7 35 "ReservoirReedModel" "isNew" "[Z", Cond.methodLink RX7 61 yX7_isOf, Cond.instanceMethod yX7_isOf, Cond.selects RX7 yX7_isOf yX7_isOf, Cond.code yX7_isOf cX7_isOf 4 (some .boolean), Cond.fieldLink RX7 16 "ReservoirReedModel" "many" "[I", Cond.methodLink RX7 107 yX7_hashed, Cond.instanceMethod yX7_hashed, Cond.selects RX7 yX7_hashed yX7_hashed, Cond.code yX7_hashed cX7_hashed 6 (some .int), Cond.methodLink RX7 101 yX7_hash, Cond.static yX7_hash, Cond.code yX7_hash cX7_hash 1 (some .long), Cond.constantLong RX7 94 (2654435761)]
def wsX7_distinctEstimate : List Cond := .code yX7_distinctEstimate cX7_distinctEstimate 3 (some .long) :: ((wsX7_distinctEstimate_r1 ++ wsX7_distinctEstimate_r2) ++ wsX70)
def wsX7_runChain : List Cond := .code yX7_runChain cX7_runChain 6 none :: ([.fieldLink RX7 113 "ReservoirReedModel" "chained" "I", .fieldLink RX7 116 "ReservoirReedModel" "next" "I", .fieldLink RX7 16 "ReservoirReedModel" "many" "[I", .fieldLink RX7 29 "ReservoirReedModel" "firsts" "[I", .fieldLink RX7 13 "ReservoirReedModel" "window" "I", .fieldLink RX7 39 "ReservoirReedModel" "chain" "[I", .fieldLink RX7 32 "ReservoirReedModel" "seconds" "[I"] ++ wsX70)
def wsX7_noWindow : List Cond := .code yX7_noWindow cX7_noWindow 2 (some .boolean) :: ([.fieldLink RX7 16 "ReservoirReedModel" "many" "[I", .methodLink RX7 45 yX7_in, .static yX7_in, .initialized RX7, .code yX7_in cX7_in 3 (some .boolean), .methodLink RX7 49 yX7_refused, .instanceMethod yX7_refused, .selects RX7 yX7_refused yX7_refused, .code yX7_refused cX7_refused 2 (some .boolean), .fieldLink RX7 42 "ReservoirReedModel" "refusal" "I", .methodLink RX7 119 yX7_runChain, .instanceMethod yX7_runChain, .selects RX7 yX7_runChain yX7_runChain, .code yX7_runChain cX7_runChain 6 none, .fieldLink RX7 113 "ReservoirReedModel" "chained" "I", .fieldLink RX7 116 "ReservoirReedModel" "next" "I", .fieldLink RX7 29 "ReservoirReedModel" "firsts" "[I", .fieldLink RX7 13 "ReservoirReedModel" "window" "I", .fieldLink RX7 39 "ReservoirReedModel" "chain" "[I", .fieldLink RX7 32 "ReservoirReedModel" "seconds" "[I"] ++ wsX70)
def wsX7_windowItem_r1 : List Cond := [Cond.fieldLink RX7 20 "ReservoirReedModel" "items" "[I", Cond.fieldLink RX7 39 "ReservoirReedModel" "chain" "[I", Cond.methodLink RX7 123 yX7_noWindow, Cond.instanceMethod yX7_noWindow, Cond.selects RX7 yX7_noWindow yX7_noWindow, Cond.initialized RX7, Cond.code yX7_noWindow cX7_noWindow 2 (some .boolean), Cond.fieldLink RX7 16 "ReservoirReedModel" "many" "[I", Cond.methodLink RX7 45 yX7_in, Cond.static yX7_in, Cond.code yX7_in cX7_in 3 (some .boolean), Cond.methodLink RX7 49 yX7_refused, Cond.instanceMethod yX7_refused, Cond.selects RX7 yX7_refused yX7_refused, Cond.code yX7_refused cX7_refused 2 (some .boolean), Cond.fieldLink RX7 42 "ReservoirReedModel" "refusal" "I", Cond.methodLink RX7 119 yX7_runChain, Cond.instanceMethod yX7_runChain, Cond.selects RX7 yX7_runChain yX7_runChain, Cond.code yX7_runChain cX7_runChain 6 none, Cond.fieldLink RX7 113 "ReservoirReedModel" "chained" "I", Cond.fieldLink RX7 116 "ReservoirReedModel" "next" "I", Cond.fieldLink RX7 29 "ReservoirReedModel" "firsts" "[I", Cond.fieldLink RX7 13 "ReservoirReedModel" "window" "I"]
def wsX7_windowItem_r2 : List Cond := [Cond.fieldLink RX7 32 "ReservoirReedModel" "seconds" "[I"]
def wsX7_windowItem : List Cond := .code yX7_windowItem cX7_windowItem 2 (some .int) :: ((wsX7_windowItem_r1 ++ wsX7_windowItem_r2) ++ wsX70)
def wsX7_windowPosition : List Cond := .code yX7_windowPosition cX7_windowPosition 2 (some .int) :: ([.fieldLink RX7 39 "ReservoirReedModel" "chain" "[I", .methodLink RX7 123 yX7_noWindow, .instanceMethod yX7_noWindow, .selects RX7 yX7_noWindow yX7_noWindow, .initialized RX7, .code yX7_noWindow cX7_noWindow 2 (some .boolean), .fieldLink RX7 16 "ReservoirReedModel" "many" "[I", .methodLink RX7 45 yX7_in, .static yX7_in, .code yX7_in cX7_in 3 (some .boolean), .methodLink RX7 49 yX7_refused, .instanceMethod yX7_refused, .selects RX7 yX7_refused yX7_refused, .code yX7_refused cX7_refused 2 (some .boolean), .fieldLink RX7 42 "ReservoirReedModel" "refusal" "I", .methodLink RX7 119 yX7_runChain, .instanceMethod yX7_runChain, .selects RX7 yX7_runChain yX7_runChain, .code yX7_runChain cX7_runChain 6 none, .fieldLink RX7 113 "ReservoirReedModel" "chained" "I", .fieldLink RX7 116 "ReservoirReedModel" "next" "I", .fieldLink RX7 29 "ReservoirReedModel" "firsts" "[I", .fieldLink RX7 13 "ReservoirReedModel" "window" "I", .fieldLink RX7 32 "ReservoirReedModel" "seconds" "[I"] ++ wsX70)
def wsX7_chainLength : List Cond := .code yX7_chainLength cX7_chainLength 2 (some .int) :: ([.fieldLink RX7 113 "ReservoirReedModel" "chained" "I", .methodLink RX7 54 yX7_noStream, .instanceMethod yX7_noStream, .selects RX7 yX7_noStream yX7_noStream, .initialized RX7, .code yX7_noStream cX7_noStream 3 (some .boolean), .methodLink RX7 45 yX7_in, .static yX7_in, .code yX7_in cX7_in 3 (some .boolean), .methodLink RX7 49 yX7_refused, .instanceMethod yX7_refused, .selects RX7 yX7_refused yX7_refused, .code yX7_refused cX7_refused 2 (some .boolean), .fieldLink RX7 42 "ReservoirReedModel" "refusal" "I", .methodLink RX7 119 yX7_runChain, .instanceMethod yX7_runChain, .selects RX7 yX7_runChain yX7_runChain, .code yX7_runChain cX7_runChain 6 none, .fieldLink RX7 116 "ReservoirReedModel" "next" "I", .fieldLink RX7 16 "ReservoirReedModel" "many" "[I", .fieldLink RX7 29 "ReservoirReedModel" "firsts" "[I", .fieldLink RX7 13 "ReservoirReedModel" "window" "I", .fieldLink RX7 39 "ReservoirReedModel" "chain" "[I", .fieldLink RX7 32 "ReservoirReedModel" "seconds" "[I"] ++ wsX70)
def wsX7_successor : List Cond := .code yX7_successor cX7_successor 2 (some .int) :: ([.fieldLink RX7 116 "ReservoirReedModel" "next" "I", .methodLink RX7 123 yX7_noWindow, .instanceMethod yX7_noWindow, .selects RX7 yX7_noWindow yX7_noWindow, .initialized RX7, .code yX7_noWindow cX7_noWindow 2 (some .boolean), .fieldLink RX7 16 "ReservoirReedModel" "many" "[I", .methodLink RX7 45 yX7_in, .static yX7_in, .code yX7_in cX7_in 3 (some .boolean), .methodLink RX7 49 yX7_refused, .instanceMethod yX7_refused, .selects RX7 yX7_refused yX7_refused, .code yX7_refused cX7_refused 2 (some .boolean), .fieldLink RX7 42 "ReservoirReedModel" "refusal" "I", .methodLink RX7 119 yX7_runChain, .instanceMethod yX7_runChain, .selects RX7 yX7_runChain yX7_runChain, .code yX7_runChain cX7_runChain 6 none, .fieldLink RX7 113 "ReservoirReedModel" "chained" "I", .fieldLink RX7 29 "ReservoirReedModel" "firsts" "[I", .fieldLink RX7 13 "ReservoirReedModel" "window" "I", .fieldLink RX7 39 "ReservoirReedModel" "chain" "[I", .fieldLink RX7 32 "ReservoirReedModel" "seconds" "[I"] ++ wsX70)
def wsJ9_max_f86c9 : List Cond := .code yJ9_max_f86c9 cJ9_max_f86c9 4 (some .long) :: ([])
def wsJ9_min_7cf53 : List Cond := .code yJ9_min_7cf53 cJ9_min_7cf53 2 (some .int) :: ([])
def wsL_begin_r1 : List Cond := [Cond.classLink RL 13 "java/lang/IllegalArgumentException", Cond.methodLink RL 7 yX6_begin, Cond.instanceMethod yX6_begin, Cond.selects RX6 yX6_begin yX6_begin, Cond.initialized RX6, Cond.code yX6_begin cX6_begin 3 none, Cond.methodLink RX6 37 yX6_checkArgument, Cond.static yX6_checkArgument, Cond.code yX6_checkArgument cX6_checkArgument 3 none, Cond.classLink RX6 176 "java/lang/IllegalArgumentException", Cond.initialized "java/lang/IllegalArgumentException", Cond.methodLink RX6 33 yX6_startAgain, Cond.instanceMethod yX6_startAgain, Cond.selects RX6 yX6_startAgain yX6_startAgain, Cond.code yX6_startAgain cX6_startAgain 3 none, Cond.fieldLink RX6 155 "ReservoirReed" "size" "I", Cond.fieldLink RX6 10 "ReservoirReed" "stream0" "LReservoirReed$Stream;", Cond.fieldLink RX6 16 "ReservoirReed" "stream1" "LReservoirReed$Stream;", Cond.methodLink RX6 158 yX5_startAgain, Cond.instanceMethod yX5_startAgain, Cond.selects RX5 yX5_startAgain yX5_startAgain, Cond.initialized RX5, Cond.code yX5_startAgain cX5_startAgain 3 none, Cond.fieldLink RX5 53 "ReservoirReed$Stream" "size" "I"]
def wsL_begin_r2 : List Cond := [Cond.fieldLink RX5 57 "ReservoirReed$Stream" "window" "I", Cond.methodLink RX5 60 yX5_makeEmpty, Cond.instanceMethod yX5_makeEmpty, Cond.selects RX5 yX5_makeEmpty yX5_makeEmpty, Cond.code yX5_makeEmpty cX5_makeEmpty 1 none, Cond.fieldLink RX5 63 "ReservoirReed$Stream" "taken" "I", Cond.fieldLink RX5 10 "ReservoirReed$Stream" "reservoir" "LReservoirReed$Reservoir;", Cond.fieldLink RX5 19 "ReservoirReed$Stream" "group0" "LReservoirReed$Group;", Cond.fieldLink RX5 23 "ReservoirReed$Stream" "group1" "LReservoirReed$Group;", Cond.fieldLink RX5 26 "ReservoirReed$Stream" "group2" "LReservoirReed$Group;", Cond.fieldLink RX5 29 "ReservoirReed$Stream" "group3" "LReservoirReed$Group;", Cond.fieldLink RX5 35 "ReservoirReed$Stream" "priorities" "LReservoirReed$Priorities;", Cond.fieldLink RX5 42 "ReservoirReed$Stream" "distinct" "LReservoirReed$Distinct;", Cond.fieldLink RX5 49 "ReservoirReed$Stream" "chain" "LReservoirReed$Chain;", Cond.methodLink RX5 66 yX4_startAgain, Cond.instanceMethod yX4_startAgain, Cond.selects RX4 yX4_startAgain yX4_startAgain, Cond.initialized RX4, Cond.code yX4_startAgain cX4_startAgain 2 none, Cond.fieldLink RX4 18 "ReservoirReed$Reservoir" "size" "I", Cond.fieldLink RX4 22 "ReservoirReed$Reservoir" "given" "I", Cond.methodLink RX5 70 yX2_startAgain, Cond.instanceMethod yX2_startAgain, Cond.selects RX2 yX2_startAgain yX2_startAgain]
def wsL_begin_r3 : List Cond := [Cond.initialized RX2, Cond.code yX2_startAgain cX2_startAgain 2 none, Cond.fieldLink RX2 16 "ReservoirReed$Group" "weight" "I", Cond.fieldLink RX2 10 "ReservoirReed$Group" "reservoir" "LReservoirReed$Reservoir;", Cond.methodLink RX2 20 yX4_startAgain, Cond.methodLink RX5 71 yX3_startAgain, Cond.instanceMethod yX3_startAgain, Cond.selects RX3 yX3_startAgain yX3_startAgain, Cond.initialized RX3, Cond.code yX3_startAgain cX3_startAgain 2 none, Cond.fieldLink RX3 24 "ReservoirReed$Priorities" "size" "I", Cond.fieldLink RX3 28 "ReservoirReed$Priorities" "held" "I", Cond.methodLink RX5 72 yX1_startAgain, Cond.instanceMethod yX1_startAgain, Cond.selects RX1 yX1_startAgain yX1_startAgain, Cond.initialized RX1, Cond.code yX1_startAgain cX1_startAgain 2 none, Cond.fieldLink RX1 18 "ReservoirReed$Distinct" "size" "I", Cond.fieldLink RX1 22 "ReservoirReed$Distinct" "held" "I", Cond.methodLink RX5 73 yX0_startAgain, Cond.instanceMethod yX0_startAgain, Cond.selects RX0 yX0_startAgain yX0_startAgain, Cond.initialized RX0, Cond.code yX0_startAgain cX0_startAgain 2 none]
def wsL_begin_r4 : List Cond := [Cond.fieldLink RX0 18 "ReservoirReed$Chain" "window" "I", Cond.fieldLink RX0 22 "ReservoirReed$Chain" "start" "I", Cond.fieldLink RX0 25 "ReservoirReed$Chain" "end" "I", Cond.fieldLink RX0 28 "ReservoirReed$Chain" "awaited" "I"]
def wsL_begin : List Cond := .codeWith yL_begin cL_begin 4 (some .int) [(0, 6, 9, 13)] :: ((wsL_begin_r1 ++ (wsL_begin_r2 ++ (wsL_begin_r3 ++ wsL_begin_r4))) ++ wsX60 ++ wsX50 ++ wsX40 ++ wsX20 ++ wsX30 ++ wsX10 ++ wsX00 ++ (vx_atS RX6 180 "java/lang/IllegalArgumentException" ["java/lang/RuntimeException", "java/lang/Exception"]).filter goodWord)
def wsL_offer_r1 : List Cond := [Cond.classLink RL 13 "java/lang/IllegalArgumentException", Cond.classLink RL 19 "java/lang/IllegalStateException", Cond.methodLink RL 15 yX6_offer, Cond.instanceMethod yX6_offer, Cond.selects RX6 yX6_offer yX6_offer, Cond.initialized RX6, Cond.code yX6_offer cX6_offer 8 (some .int), Cond.constant RX6 41 (1000000), Cond.constant RX6 44 (2147483647), Cond.methodLink RX6 37 yX6_checkArgument, Cond.static yX6_checkArgument, Cond.code yX6_checkArgument cX6_checkArgument 3 none, Cond.classLink RX6 176 "java/lang/IllegalArgumentException", Cond.initialized "java/lang/IllegalArgumentException", Cond.methodLink RX6 45 yX6_streamOf, Cond.instanceMethod yX6_streamOf, Cond.selects RX6 yX6_streamOf yX6_streamOf, Cond.code yX6_streamOf cX6_streamOf 2 (some (.object "ReservoirReed$Stream")), Cond.fieldLink RX6 10 "ReservoirReed" "stream0" "LReservoirReed$Stream;", Cond.fieldLink RX6 16 "ReservoirReed" "stream1" "LReservoirReed$Stream;", Cond.methodLink RX6 53 yX6_checkState, Cond.static yX6_checkState, Cond.code yX6_checkState cX6_checkState 1 none, Cond.classLink RX6 183 "java/lang/IllegalStateException"]
def wsL_offer_r2 : List Cond := [Cond.initialized "java/lang/IllegalStateException", Cond.methodLink RX6 57 yX5_take, Cond.instanceMethod yX5_take, Cond.selects RX5 yX5_take yX5_take, Cond.initialized RX5, Cond.code yX5_take cX5_take 6 none, Cond.fieldLink RX5 63 "ReservoirReed$Stream" "taken" "I", Cond.fieldLink RX5 10 "ReservoirReed$Stream" "reservoir" "LReservoirReed$Reservoir;", Cond.fieldLink RX5 35 "ReservoirReed$Stream" "priorities" "LReservoirReed$Priorities;", Cond.fieldLink RX5 42 "ReservoirReed$Stream" "distinct" "LReservoirReed$Distinct;", Cond.fieldLink RX5 49 "ReservoirReed$Stream" "chain" "LReservoirReed$Chain;", Cond.methodLink RX5 74 yX4_give, Cond.instanceMethod yX4_give, Cond.selects RX4 yX4_give yX4_give, Cond.initialized RX4, Cond.code yX4_give cX4_give 5 none, Cond.fieldLink RX4 22 "ReservoirReed$Reservoir" "given" "I", Cond.fieldLink RX4 18 "ReservoirReed$Reservoir" "size" "I", Cond.fieldLink RX4 9 "ReservoirReed$Reservoir" "items" "[I", Cond.fieldLink RX4 15 "ReservoirReed$Reservoir" "positions" "[I", Cond.static yX6_remainder, Cond.code yX6_remainder cX6_remainder 2 (some .int), Cond.static yX6_put, Cond.code yX6_put cX6_put 3 none]
def wsL_offer_r3 : List Cond := [Cond.methodLink RX5 78 yX5_groupOf, Cond.instanceMethod yX5_groupOf, Cond.selects RX5 yX5_groupOf yX5_groupOf, Cond.code yX5_groupOf cX5_groupOf 2 (some (.object "ReservoirReed$Group")), Cond.fieldLink RX5 19 "ReservoirReed$Stream" "group0" "LReservoirReed$Group;", Cond.fieldLink RX5 23 "ReservoirReed$Stream" "group1" "LReservoirReed$Group;", Cond.fieldLink RX5 26 "ReservoirReed$Stream" "group2" "LReservoirReed$Group;", Cond.fieldLink RX5 29 "ReservoirReed$Stream" "group3" "LReservoirReed$Group;", Cond.methodLink RX5 82 yX2_give, Cond.instanceMethod yX2_give, Cond.selects RX2 yX2_give yX2_give, Cond.initialized RX2, Cond.code yX2_give cX2_give 5 none, Cond.fieldLink RX2 16 "ReservoirReed$Group" "weight" "I", Cond.fieldLink RX2 10 "ReservoirReed$Group" "reservoir" "LReservoirReed$Reservoir;", Cond.methodLink RX2 24 yX4_give, Cond.methodLink RX5 85 yX3_add, Cond.instanceMethod yX3_add, Cond.selects RX3 yX3_add yX3_add, Cond.initialized RX3, Cond.code yX3_add cX3_add 6 none, Cond.fieldLink RX3 24 "ReservoirReed$Priorities" "size" "I", Cond.fieldLink RX3 28 "ReservoirReed$Priorities" "held" "I", Cond.methodLink RX3 43 Lib.Math.min.name]
def wsL_offer_r4 : List Cond := [Cond.static Lib.Math.min.name, Cond.initialized "java/lang/Math", Cond.code Lib.Math.min.name Lib.Math.min.code 2 (some .int), Cond.fieldLink RX3 9 "ReservoirReed$Priorities" "items" "[I", Cond.fieldLink RX3 15 "ReservoirReed$Priorities" "weights" "[I", Cond.fieldLink RX3 18 "ReservoirReed$Priorities" "groups" "[I", Cond.fieldLink RX3 21 "ReservoirReed$Priorities" "dice" "[I", Cond.methodLink RX3 39 yX3_placeFor, Cond.instanceMethod yX3_placeFor, Cond.selects RX3 yX3_placeFor yX3_placeFor, Cond.code yX3_placeFor cX3_placeFor 4 (some .int), Cond.methodLink RX3 52 yX3_isGreater, Cond.instanceMethod yX3_isGreater, Cond.selects RX3 yX3_isGreater yX3_isGreater, Cond.code yX3_isGreater cX3_isGreater 4 (some .boolean), Cond.static yX6_at, Cond.code yX6_at cX6_at 2 (some .int), Cond.static yX6_insert, Cond.code yX6_insert cX6_insert 5 none, Cond.methodLink RX6 90 yX6_at, Cond.methodLink RX6 193 yX6_put, Cond.methodLink RX5 88 yX1_add, Cond.instanceMethod yX1_add, Cond.selects RX1 yX1_add yX1_add]
def wsL_offer_r5 : List Cond := [Cond.initialized RX1, Cond.code yX1_add cX1_add 4 none, Cond.fieldLink RX1 22 "ReservoirReed$Distinct" "held" "I", Cond.fieldLink RX1 9 "ReservoirReed$Distinct" "items" "[I", Cond.fieldLink RX1 15 "ReservoirReed$Distinct" "times" "[I", Cond.fieldLink RX1 18 "ReservoirReed$Distinct" "size" "I", Cond.methodLink RX1 41 Lib.Math.min.name, Cond.methodLink RX1 33 yX1_placeFor, Cond.instanceMethod yX1_placeFor, Cond.selects RX1 yX1_placeFor yX1_placeFor, Cond.code yX1_placeFor cX1_placeFor 5 (some .int), Cond.methodLink RX1 51 yX1_hashOf, Cond.static yX1_hashOf, Cond.code yX1_hashOf cX1_hashOf 1 (some .long), Cond.constantLong RX1 55 (2654435761), Cond.constantLong RX1 57 (4294967296), Cond.methodLink RX5 91 yX0_give, Cond.instanceMethod yX0_give, Cond.selects RX0 yX0_give yX0_give, Cond.initialized RX0, Cond.code yX0_give cX0_give 5 none, Cond.fieldLink RX0 18 "ReservoirReed$Chain" "window" "I", Cond.methodLink RX0 31 Lib.Math.min.name, Cond.fieldLink RX0 22 "ReservoirReed$Chain" "start" "I"]
def wsL_offer_r6 : List Cond := [Cond.fieldLink RX0 25 "ReservoirReed$Chain" "end" "I", Cond.fieldLink RX0 28 "ReservoirReed$Chain" "awaited" "I", Cond.fieldLink RX0 15 "ReservoirReed$Chain" "positions" "[I", Cond.methodLink RX0 40 yX0_append, Cond.instanceMethod yX0_append, Cond.selects RX0 yX0_append yX0_append, Cond.code yX0_append cX0_append 4 none, Cond.fieldLink RX0 9 "ReservoirReed$Chain" "items" "[I"]
def wsL_offer : List Cond := .codeWith yL_offer cL_offer 9 (some .int) [(0, 18, 21, 13), (0, 18, 25, 19)] :: ((wsL_offer_r1 ++ (wsL_offer_r2 ++ (wsL_offer_r3 ++ (wsL_offer_r4 ++ (wsL_offer_r5 ++ wsL_offer_r6))))) ++ wsX50 ++ wsX60 ++ wsX40 ++ wsX20 ++ wsX30 ++ wsX10 ++ wsX00 ++ (vx_atS RX6 180 "java/lang/IllegalArgumentException" ["java/lang/RuntimeException", "java/lang/Exception"]).filter goodWord ++ (vx_atS RX6 187 "java/lang/IllegalStateException" ["java/lang/RuntimeException", "java/lang/Exception"]).filter goodWord)
def wsL_clear_r1 : List Cond := [Cond.classLink RL 13 "java/lang/IllegalArgumentException", Cond.methodLink RL 21 yX6_clear, Cond.instanceMethod yX6_clear, Cond.selects RX6 yX6_clear yX6_clear, Cond.initialized RX6, Cond.code yX6_clear cX6_clear 4 (some .int), Cond.methodLink RX6 37 yX6_checkArgument, Cond.static yX6_checkArgument, Cond.code yX6_checkArgument cX6_checkArgument 3 none, Cond.classLink RX6 176 "java/lang/IllegalArgumentException", Cond.initialized "java/lang/IllegalArgumentException", Cond.methodLink RX6 45 yX6_streamOf, Cond.instanceMethod yX6_streamOf, Cond.selects RX6 yX6_streamOf yX6_streamOf, Cond.code yX6_streamOf cX6_streamOf 2 (some (.object "ReservoirReed$Stream")), Cond.fieldLink RX6 10 "ReservoirReed" "stream0" "LReservoirReed$Stream;", Cond.fieldLink RX6 16 "ReservoirReed" "stream1" "LReservoirReed$Stream;", Cond.methodLink RX6 61 yX5_makeEmpty, Cond.instanceMethod yX5_makeEmpty, Cond.selects RX5 yX5_makeEmpty yX5_makeEmpty, Cond.initialized RX5, Cond.code yX5_makeEmpty cX5_makeEmpty 1 none, Cond.fieldLink RX5 63 "ReservoirReed$Stream" "taken" "I", Cond.fieldLink RX5 10 "ReservoirReed$Stream" "reservoir" "LReservoirReed$Reservoir;"]
def wsL_clear_r2 : List Cond := [Cond.fieldLink RX5 53 "ReservoirReed$Stream" "size" "I", Cond.fieldLink RX5 19 "ReservoirReed$Stream" "group0" "LReservoirReed$Group;", Cond.fieldLink RX5 23 "ReservoirReed$Stream" "group1" "LReservoirReed$Group;", Cond.fieldLink RX5 26 "ReservoirReed$Stream" "group2" "LReservoirReed$Group;", Cond.fieldLink RX5 29 "ReservoirReed$Stream" "group3" "LReservoirReed$Group;", Cond.fieldLink RX5 35 "ReservoirReed$Stream" "priorities" "LReservoirReed$Priorities;", Cond.fieldLink RX5 42 "ReservoirReed$Stream" "distinct" "LReservoirReed$Distinct;", Cond.fieldLink RX5 49 "ReservoirReed$Stream" "chain" "LReservoirReed$Chain;", Cond.fieldLink RX5 57 "ReservoirReed$Stream" "window" "I", Cond.methodLink RX5 66 yX4_startAgain, Cond.instanceMethod yX4_startAgain, Cond.selects RX4 yX4_startAgain yX4_startAgain, Cond.initialized RX4, Cond.code yX4_startAgain cX4_startAgain 2 none, Cond.fieldLink RX4 18 "ReservoirReed$Reservoir" "size" "I", Cond.fieldLink RX4 22 "ReservoirReed$Reservoir" "given" "I", Cond.methodLink RX5 70 yX2_startAgain, Cond.instanceMethod yX2_startAgain, Cond.selects RX2 yX2_startAgain yX2_startAgain, Cond.initialized RX2, Cond.code yX2_startAgain cX2_startAgain 2 none, Cond.fieldLink RX2 16 "ReservoirReed$Group" "weight" "I", Cond.fieldLink RX2 10 "ReservoirReed$Group" "reservoir" "LReservoirReed$Reservoir;", Cond.methodLink RX2 20 yX4_startAgain]
def wsL_clear_r3 : List Cond := [Cond.methodLink RX5 71 yX3_startAgain, Cond.instanceMethod yX3_startAgain, Cond.selects RX3 yX3_startAgain yX3_startAgain, Cond.initialized RX3, Cond.code yX3_startAgain cX3_startAgain 2 none, Cond.fieldLink RX3 24 "ReservoirReed$Priorities" "size" "I", Cond.fieldLink RX3 28 "ReservoirReed$Priorities" "held" "I", Cond.methodLink RX5 72 yX1_startAgain, Cond.instanceMethod yX1_startAgain, Cond.selects RX1 yX1_startAgain yX1_startAgain, Cond.initialized RX1, Cond.code yX1_startAgain cX1_startAgain 2 none, Cond.fieldLink RX1 18 "ReservoirReed$Distinct" "size" "I", Cond.fieldLink RX1 22 "ReservoirReed$Distinct" "held" "I", Cond.methodLink RX5 73 yX0_startAgain, Cond.instanceMethod yX0_startAgain, Cond.selects RX0 yX0_startAgain yX0_startAgain, Cond.initialized RX0, Cond.code yX0_startAgain cX0_startAgain 2 none, Cond.fieldLink RX0 18 "ReservoirReed$Chain" "window" "I", Cond.fieldLink RX0 22 "ReservoirReed$Chain" "start" "I", Cond.fieldLink RX0 25 "ReservoirReed$Chain" "end" "I", Cond.fieldLink RX0 28 "ReservoirReed$Chain" "awaited" "I"]
def wsL_clear : List Cond := .codeWith yL_clear cL_clear 4 (some .int) [(0, 9, 12, 13)] :: ((wsL_clear_r1 ++ (wsL_clear_r2 ++ wsL_clear_r3)) ++ wsX50 ++ wsX60 ++ wsX40 ++ wsX20 ++ wsX30 ++ wsX10 ++ wsX00 ++ (vx_atS RX6 180 "java/lang/IllegalArgumentException" ["java/lang/RuntimeException", "java/lang/Exception"]).filter goodWord)
def wsL_offers : List Cond := .codeWith yL_offers cL_offers 4 (some .int) [(0, 9, 12, 13)] :: ([.classLink RL 13 "java/lang/IllegalArgumentException", .methodLink RL 25 yX6_offers, .instanceMethod yX6_offers, .selects RX6 yX6_offers yX6_offers, .initialized RX6, .code yX6_offers cX6_offers 2 (some .int), .fieldLink RX6 10 "ReservoirReed" "stream0" "LReservoirReed$Stream;", .fieldLink RX6 16 "ReservoirReed" "stream1" "LReservoirReed$Stream;", .methodLink RX6 37 yX6_checkArgument, .static yX6_checkArgument, .code yX6_checkArgument cX6_checkArgument 3 none, .classLink RX6 176 "java/lang/IllegalArgumentException", .initialized "java/lang/IllegalArgumentException", .methodLink RX6 45 yX6_streamOf, .instanceMethod yX6_streamOf, .selects RX6 yX6_streamOf yX6_streamOf, .code yX6_streamOf cX6_streamOf 2 (some (.object "ReservoirReed$Stream"))] ++ wsX60 ++ wsX50 ++ (vx_atS RX6 180 "java/lang/IllegalArgumentException" ["java/lang/RuntimeException", "java/lang/Exception"]).filter goodWord)
def wsL_exactWeight_r1 : List Cond := [Cond.classLink RL 13 "java/lang/IllegalArgumentException", Cond.methodLink RL 28 yX6_exactWeight, Cond.instanceMethod yX6_exactWeight, Cond.selects RX6 yX6_exactWeight yX6_exactWeight, Cond.initialized RX6, Cond.code yX6_exactWeight cX6_exactWeight 3 (some .int), Cond.fieldLink RX6 10 "ReservoirReed" "stream0" "LReservoirReed$Stream;", Cond.fieldLink RX6 16 "ReservoirReed" "stream1" "LReservoirReed$Stream;", Cond.methodLink RX6 37 yX6_checkArgument, Cond.static yX6_checkArgument, Cond.code yX6_checkArgument cX6_checkArgument 3 none, Cond.classLink RX6 176 "java/lang/IllegalArgumentException", Cond.initialized "java/lang/IllegalArgumentException", Cond.methodLink RX6 64 yX5_groupOf, Cond.instanceMethod yX5_groupOf, Cond.selects RX5 yX5_groupOf yX5_groupOf, Cond.initialized RX5, Cond.code yX5_groupOf cX5_groupOf 2 (some (.object "ReservoirReed$Group")), Cond.fieldLink RX5 19 "ReservoirReed$Stream" "group0" "LReservoirReed$Group;", Cond.fieldLink RX5 23 "ReservoirReed$Stream" "group1" "LReservoirReed$Group;", Cond.fieldLink RX5 26 "ReservoirReed$Stream" "group2" "LReservoirReed$Group;", Cond.fieldLink RX5 29 "ReservoirReed$Stream" "group3" "LReservoirReed$Group;", Cond.methodLink RX6 45 yX6_streamOf, Cond.instanceMethod yX6_streamOf]
def wsL_exactWeight_r2 : List Cond := [Cond.selects RX6 yX6_streamOf yX6_streamOf, Cond.code yX6_streamOf cX6_streamOf 2 (some (.object "ReservoirReed$Stream"))]
def wsL_exactWeight : List Cond := .codeWith yL_exactWeight cL_exactWeight 5 (some .int) [(0, 10, 13, 13)] :: ((wsL_exactWeight_r1 ++ wsL_exactWeight_r2) ++ wsX60 ++ wsX20 ++ wsX50 ++ (vx_atS RX6 180 "java/lang/IllegalArgumentException" ["java/lang/RuntimeException", "java/lang/Exception"]).filter goodWord)
def wsL_reservoirSize_r1 : List Cond := [Cond.classLink RL 13 "java/lang/IllegalArgumentException", Cond.methodLink RL 32 yX6_reservoirSize, Cond.instanceMethod yX6_reservoirSize, Cond.selects RX6 yX6_reservoirSize yX6_reservoirSize, Cond.initialized RX6, Cond.code yX6_reservoirSize cX6_reservoirSize 2 (some .int), Cond.methodLink RX6 37 yX6_checkArgument, Cond.static yX6_checkArgument, Cond.code yX6_checkArgument cX6_checkArgument 3 none, Cond.classLink RX6 176 "java/lang/IllegalArgumentException", Cond.initialized "java/lang/IllegalArgumentException", Cond.methodLink RX6 45 yX6_streamOf, Cond.instanceMethod yX6_streamOf, Cond.selects RX6 yX6_streamOf yX6_streamOf, Cond.code yX6_streamOf cX6_streamOf 2 (some (.object "ReservoirReed$Stream")), Cond.fieldLink RX6 10 "ReservoirReed" "stream0" "LReservoirReed$Stream;", Cond.fieldLink RX6 16 "ReservoirReed" "stream1" "LReservoirReed$Stream;", Cond.methodLink RX6 77 yX4_filled, Cond.instanceMethod yX4_filled, Cond.selects RX4 yX4_filled yX4_filled, Cond.initialized RX4, Cond.code yX4_filled cX4_filled 1 (some .int), Cond.fieldLink RX4 22 "ReservoirReed$Reservoir" "given" "I", Cond.fieldLink RX4 18 "ReservoirReed$Reservoir" "size" "I"]
def wsL_reservoirSize_r2 : List Cond := [Cond.methodLink RX4 33 Lib.Math.min.name, Cond.static Lib.Math.min.name, Cond.initialized "java/lang/Math", Cond.code Lib.Math.min.name Lib.Math.min.code 2 (some .int)]
def wsL_reservoirSize : List Cond := .codeWith yL_reservoirSize cL_reservoirSize 4 (some .int) [(0, 9, 12, 13)] :: ((wsL_reservoirSize_r1 ++ wsL_reservoirSize_r2) ++ wsX50 ++ wsX60 ++ wsX40 ++ (vx_atS RX6 180 "java/lang/IllegalArgumentException" ["java/lang/RuntimeException", "java/lang/Exception"]).filter goodWord)
def wsL_reservoirItem_r1 : List Cond := [Cond.classLink RL 13 "java/lang/IllegalArgumentException", Cond.classLink RL 38 "java/lang/IndexOutOfBoundsException", Cond.methodLink RL 35 yX6_reservoirItem, Cond.instanceMethod yX6_reservoirItem, Cond.selects RX6 yX6_reservoirItem yX6_reservoirItem, Cond.initialized RX6, Cond.code yX6_reservoirItem cX6_reservoirItem 4 (some .int), Cond.methodLink RX6 37 yX6_checkArgument, Cond.static yX6_checkArgument, Cond.code yX6_checkArgument cX6_checkArgument 3 none, Cond.classLink RX6 176 "java/lang/IllegalArgumentException", Cond.initialized "java/lang/IllegalArgumentException", Cond.methodLink RX6 45 yX6_streamOf, Cond.instanceMethod yX6_streamOf, Cond.selects RX6 yX6_streamOf yX6_streamOf, Cond.code yX6_streamOf cX6_streamOf 2 (some (.object "ReservoirReed$Stream")), Cond.fieldLink RX6 10 "ReservoirReed" "stream0" "LReservoirReed$Stream;", Cond.fieldLink RX6 16 "ReservoirReed" "stream1" "LReservoirReed$Stream;", Cond.methodLink RX6 77 yX4_filled, Cond.instanceMethod yX4_filled, Cond.selects RX4 yX4_filled yX4_filled, Cond.initialized RX4, Cond.code yX4_filled cX4_filled 1 (some .int), Cond.fieldLink RX4 22 "ReservoirReed$Reservoir" "given" "I"]
def wsL_reservoirItem_r2 : List Cond := [Cond.fieldLink RX4 18 "ReservoirReed$Reservoir" "size" "I", Cond.methodLink RX4 33 Lib.Math.min.name, Cond.static Lib.Math.min.name, Cond.initialized "java/lang/Math", Cond.code Lib.Math.min.name Lib.Math.min.code 2 (some .int), Cond.methodLink RX6 83 yX6_checkPlace, Cond.static yX6_checkPlace, Cond.code yX6_checkPlace cX6_checkPlace 2 none, Cond.classLink RX6 188 "java/lang/IndexOutOfBoundsException", Cond.initialized "java/lang/IndexOutOfBoundsException", Cond.methodLink RX6 90 yX6_at, Cond.static yX6_at, Cond.code yX6_at cX6_at 2 (some .int)]
def wsL_reservoirItem : List Cond := .codeWith yL_reservoirItem cL_reservoirItem 5 (some .int) [(0, 10, 13, 13), (0, 10, 17, 38)] :: ((wsL_reservoirItem_r1 ++ wsL_reservoirItem_r2) ++ wsX50 ++ wsX40 ++ wsX60 ++ (vx_atS RX6 180 "java/lang/IllegalArgumentException" ["java/lang/RuntimeException", "java/lang/Exception"]).filter goodWord ++ (vx_atS RX6 192 "java/lang/IndexOutOfBoundsException" ["java/lang/RuntimeException", "java/lang/Exception"]).filter goodWord)
def wsL_reservoirPosition_r1 : List Cond := [Cond.classLink RL 13 "java/lang/IllegalArgumentException", Cond.classLink RL 38 "java/lang/IndexOutOfBoundsException", Cond.methodLink RL 40 yX6_reservoirPosition, Cond.instanceMethod yX6_reservoirPosition, Cond.selects RX6 yX6_reservoirPosition yX6_reservoirPosition, Cond.initialized RX6, Cond.code yX6_reservoirPosition cX6_reservoirPosition 4 (some .int), Cond.methodLink RX6 37 yX6_checkArgument, Cond.static yX6_checkArgument, Cond.code yX6_checkArgument cX6_checkArgument 3 none, Cond.classLink RX6 176 "java/lang/IllegalArgumentException", Cond.initialized "java/lang/IllegalArgumentException", Cond.methodLink RX6 45 yX6_streamOf, Cond.instanceMethod yX6_streamOf, Cond.selects RX6 yX6_streamOf yX6_streamOf, Cond.code yX6_streamOf cX6_streamOf 2 (some (.object "ReservoirReed$Stream")), Cond.fieldLink RX6 10 "ReservoirReed" "stream0" "LReservoirReed$Stream;", Cond.fieldLink RX6 16 "ReservoirReed" "stream1" "LReservoirReed$Stream;", Cond.methodLink RX6 77 yX4_filled, Cond.instanceMethod yX4_filled, Cond.selects RX4 yX4_filled yX4_filled, Cond.initialized RX4, Cond.code yX4_filled cX4_filled 1 (some .int), Cond.fieldLink RX4 22 "ReservoirReed$Reservoir" "given" "I"]
def wsL_reservoirPosition_r2 : List Cond := [Cond.fieldLink RX4 18 "ReservoirReed$Reservoir" "size" "I", Cond.methodLink RX4 33 Lib.Math.min.name, Cond.static Lib.Math.min.name, Cond.initialized "java/lang/Math", Cond.code Lib.Math.min.name Lib.Math.min.code 2 (some .int), Cond.methodLink RX6 83 yX6_checkPlace, Cond.static yX6_checkPlace, Cond.code yX6_checkPlace cX6_checkPlace 2 none, Cond.classLink RX6 188 "java/lang/IndexOutOfBoundsException", Cond.initialized "java/lang/IndexOutOfBoundsException", Cond.methodLink RX6 90 yX6_at, Cond.static yX6_at, Cond.code yX6_at cX6_at 2 (some .int)]
def wsL_reservoirPosition : List Cond := .codeWith yL_reservoirPosition cL_reservoirPosition 5 (some .int) [(0, 10, 13, 13), (0, 10, 17, 38)] :: ((wsL_reservoirPosition_r1 ++ wsL_reservoirPosition_r2) ++ wsX50 ++ wsX40 ++ wsX60 ++ (vx_atS RX6 180 "java/lang/IllegalArgumentException" ["java/lang/RuntimeException", "java/lang/Exception"]).filter goodWord ++ (vx_atS RX6 192 "java/lang/IndexOutOfBoundsException" ["java/lang/RuntimeException", "java/lang/Exception"]).filter goodWord)
def wsL_groupOffers_r1 : List Cond := [Cond.classLink RL 13 "java/lang/IllegalArgumentException", Cond.methodLink RL 43 yX6_groupOffers, Cond.instanceMethod yX6_groupOffers, Cond.selects RX6 yX6_groupOffers yX6_groupOffers, Cond.initialized RX6, Cond.code yX6_groupOffers cX6_groupOffers 3 (some .int), Cond.methodLink RX6 37 yX6_checkArgument, Cond.static yX6_checkArgument, Cond.code yX6_checkArgument cX6_checkArgument 3 none, Cond.classLink RX6 176 "java/lang/IllegalArgumentException", Cond.initialized "java/lang/IllegalArgumentException", Cond.methodLink RX6 45 yX6_streamOf, Cond.instanceMethod yX6_streamOf, Cond.selects RX6 yX6_streamOf yX6_streamOf, Cond.code yX6_streamOf cX6_streamOf 2 (some (.object "ReservoirReed$Stream")), Cond.fieldLink RX6 10 "ReservoirReed" "stream0" "LReservoirReed$Stream;", Cond.fieldLink RX6 16 "ReservoirReed" "stream1" "LReservoirReed$Stream;", Cond.methodLink RX6 64 yX5_groupOf, Cond.instanceMethod yX5_groupOf, Cond.selects RX5 yX5_groupOf yX5_groupOf, Cond.initialized RX5, Cond.code yX5_groupOf cX5_groupOf 2 (some (.object "ReservoirReed$Group")), Cond.fieldLink RX5 19 "ReservoirReed$Stream" "group0" "LReservoirReed$Group;", Cond.fieldLink RX5 23 "ReservoirReed$Stream" "group1" "LReservoirReed$Group;"]
def wsL_groupOffers_r2 : List Cond := [Cond.fieldLink RX5 26 "ReservoirReed$Stream" "group2" "LReservoirReed$Group;", Cond.fieldLink RX5 29 "ReservoirReed$Stream" "group3" "LReservoirReed$Group;"]
def wsL_groupOffers : List Cond := .codeWith yL_groupOffers cL_groupOffers 5 (some .int) [(0, 10, 13, 13)] :: ((wsL_groupOffers_r1 ++ wsL_groupOffers_r2) ++ wsX20 ++ wsX40 ++ wsX60 ++ wsX50 ++ (vx_atS RX6 180 "java/lang/IllegalArgumentException" ["java/lang/RuntimeException", "java/lang/Exception"]).filter goodWord)
def wsL_groupItem_r1 : List Cond := [Cond.classLink RL 13 "java/lang/IllegalArgumentException", Cond.classLink RL 38 "java/lang/IndexOutOfBoundsException", Cond.methodLink RL 46 yX6_groupItem, Cond.instanceMethod yX6_groupItem, Cond.selects RX6 yX6_groupItem yX6_groupItem, Cond.initialized RX6, Cond.code yX6_groupItem cX6_groupItem 5 (some .int), Cond.methodLink RX6 37 yX6_checkArgument, Cond.static yX6_checkArgument, Cond.code yX6_checkArgument cX6_checkArgument 3 none, Cond.classLink RX6 176 "java/lang/IllegalArgumentException", Cond.initialized "java/lang/IllegalArgumentException", Cond.methodLink RX6 45 yX6_streamOf, Cond.instanceMethod yX6_streamOf, Cond.selects RX6 yX6_streamOf yX6_streamOf, Cond.code yX6_streamOf cX6_streamOf 2 (some (.object "ReservoirReed$Stream")), Cond.fieldLink RX6 10 "ReservoirReed" "stream0" "LReservoirReed$Stream;", Cond.fieldLink RX6 16 "ReservoirReed" "stream1" "LReservoirReed$Stream;", Cond.methodLink RX6 64 yX5_groupOf, Cond.instanceMethod yX5_groupOf, Cond.selects RX5 yX5_groupOf yX5_groupOf, Cond.initialized RX5, Cond.code yX5_groupOf cX5_groupOf 2 (some (.object "ReservoirReed$Group")), Cond.fieldLink RX5 19 "ReservoirReed$Stream" "group0" "LReservoirReed$Group;"]
def wsL_groupItem_r2 : List Cond := [Cond.fieldLink RX5 23 "ReservoirReed$Stream" "group1" "LReservoirReed$Group;", Cond.fieldLink RX5 26 "ReservoirReed$Stream" "group2" "LReservoirReed$Group;", Cond.fieldLink RX5 29 "ReservoirReed$Stream" "group3" "LReservoirReed$Group;", Cond.methodLink RX6 77 yX4_filled, Cond.instanceMethod yX4_filled, Cond.selects RX4 yX4_filled yX4_filled, Cond.initialized RX4, Cond.code yX4_filled cX4_filled 1 (some .int), Cond.fieldLink RX4 22 "ReservoirReed$Reservoir" "given" "I", Cond.fieldLink RX4 18 "ReservoirReed$Reservoir" "size" "I", Cond.methodLink RX4 33 Lib.Math.min.name, Cond.static Lib.Math.min.name, Cond.initialized "java/lang/Math", Cond.code Lib.Math.min.name Lib.Math.min.code 2 (some .int), Cond.methodLink RX6 83 yX6_checkPlace, Cond.static yX6_checkPlace, Cond.code yX6_checkPlace cX6_checkPlace 2 none, Cond.classLink RX6 188 "java/lang/IndexOutOfBoundsException", Cond.initialized "java/lang/IndexOutOfBoundsException", Cond.methodLink RX6 90 yX6_at, Cond.static yX6_at, Cond.code yX6_at cX6_at 2 (some .int)]
def wsL_groupItem : List Cond := .codeWith yL_groupItem cL_groupItem 6 (some .int) [(0, 12, 15, 13), (0, 12, 19, 38)] :: ((wsL_groupItem_r1 ++ wsL_groupItem_r2) ++ wsX20 ++ wsX40 ++ wsX60 ++ wsX50 ++ (vx_atS RX6 180 "java/lang/IllegalArgumentException" ["java/lang/RuntimeException", "java/lang/Exception"]).filter goodWord ++ (vx_atS RX6 192 "java/lang/IndexOutOfBoundsException" ["java/lang/RuntimeException", "java/lang/Exception"]).filter goodWord)
def wsL_prioritySize_r1 : List Cond := [Cond.classLink RL 13 "java/lang/IllegalArgumentException", Cond.methodLink RL 50 yX6_prioritySize, Cond.instanceMethod yX6_prioritySize, Cond.selects RX6 yX6_prioritySize yX6_prioritySize, Cond.initialized RX6, Cond.code yX6_prioritySize cX6_prioritySize 2 (some .int), Cond.methodLink RX6 37 yX6_checkArgument, Cond.static yX6_checkArgument, Cond.code yX6_checkArgument cX6_checkArgument 3 none, Cond.classLink RX6 176 "java/lang/IllegalArgumentException", Cond.initialized "java/lang/IllegalArgumentException", Cond.methodLink RX6 101 yX6_prioritiesOf, Cond.instanceMethod yX6_prioritiesOf, Cond.selects RX6 yX6_prioritiesOf yX6_prioritiesOf, Cond.code yX6_prioritiesOf cX6_prioritiesOf 2 (some (.object "ReservoirReed$Priorities")), Cond.fieldLink RX6 22 "ReservoirReed" "mergedPriorities" "LReservoirReed$Priorities;", Cond.fieldLink RX6 155 "ReservoirReed" "size" "I", Cond.fieldLink RX6 10 "ReservoirReed" "stream0" "LReservoirReed$Stream;", Cond.fieldLink RX6 16 "ReservoirReed" "stream1" "LReservoirReed$Stream;", Cond.methodLink RX6 45 yX6_streamOf, Cond.instanceMethod yX6_streamOf, Cond.selects RX6 yX6_streamOf yX6_streamOf, Cond.code yX6_streamOf cX6_streamOf 2 (some (.object "ReservoirReed$Stream")), Cond.methodLink RX6 162 yX3_startAgain]
def wsL_prioritySize_r2 : List Cond := [Cond.instanceMethod yX3_startAgain, Cond.selects RX3 yX3_startAgain yX3_startAgain, Cond.initialized RX3, Cond.code yX3_startAgain cX3_startAgain 2 none, Cond.fieldLink RX3 24 "ReservoirReed$Priorities" "size" "I", Cond.fieldLink RX3 28 "ReservoirReed$Priorities" "held" "I", Cond.methodLink RX6 165 yX3_addAll, Cond.instanceMethod yX3_addAll, Cond.selects RX3 yX3_addAll yX3_addAll, Cond.code yX3_addAll cX3_addAll 4 none, Cond.fieldLink RX3 9 "ReservoirReed$Priorities" "items" "[I", Cond.fieldLink RX3 15 "ReservoirReed$Priorities" "weights" "[I", Cond.fieldLink RX3 18 "ReservoirReed$Priorities" "groups" "[I", Cond.fieldLink RX3 21 "ReservoirReed$Priorities" "dice" "[I", Cond.static yX6_at, Cond.code yX6_at cX6_at 2 (some .int), Cond.methodLink RX3 35 yX3_add, Cond.instanceMethod yX3_add, Cond.selects RX3 yX3_add yX3_add, Cond.code yX3_add cX3_add 6 none, Cond.methodLink RX3 43 Lib.Math.min.name, Cond.static Lib.Math.min.name, Cond.initialized "java/lang/Math", Cond.code Lib.Math.min.name Lib.Math.min.code 2 (some .int)]
def wsL_prioritySize_r3 : List Cond := [Cond.methodLink RX3 39 yX3_placeFor, Cond.instanceMethod yX3_placeFor, Cond.selects RX3 yX3_placeFor yX3_placeFor, Cond.code yX3_placeFor cX3_placeFor 4 (some .int), Cond.methodLink RX3 52 yX3_isGreater, Cond.instanceMethod yX3_isGreater, Cond.selects RX3 yX3_isGreater yX3_isGreater, Cond.code yX3_isGreater cX3_isGreater 4 (some .boolean), Cond.static yX6_insert, Cond.code yX6_insert cX6_insert 5 none, Cond.methodLink RX6 90 yX6_at, Cond.methodLink RX6 193 yX6_put, Cond.static yX6_put, Cond.code yX6_put cX6_put 3 none, Cond.methodLink RX6 105 yX3_sampled, Cond.instanceMethod yX3_sampled, Cond.selects RX3 yX3_sampled yX3_sampled, Cond.code yX3_sampled cX3_sampled 1 (some .int)]
def wsL_prioritySize : List Cond := .codeWith yL_prioritySize cL_prioritySize 4 (some .int) [(0, 9, 12, 13)] :: ((wsL_prioritySize_r1 ++ (wsL_prioritySize_r2 ++ wsL_prioritySize_r3)) ++ wsX50 ++ wsX60 ++ wsX30 ++ (vx_atS RX6 180 "java/lang/IllegalArgumentException" ["java/lang/RuntimeException", "java/lang/Exception"]).filter goodWord)
def wsL_priorityItem_r1 : List Cond := [Cond.classLink RL 13 "java/lang/IllegalArgumentException", Cond.classLink RL 38 "java/lang/IndexOutOfBoundsException", Cond.methodLink RL 53 yX6_priorityItem, Cond.instanceMethod yX6_priorityItem, Cond.selects RX6 yX6_priorityItem yX6_priorityItem, Cond.initialized RX6, Cond.code yX6_priorityItem cX6_priorityItem 4 (some .int), Cond.methodLink RX6 37 yX6_checkArgument, Cond.static yX6_checkArgument, Cond.code yX6_checkArgument cX6_checkArgument 3 none, Cond.classLink RX6 176 "java/lang/IllegalArgumentException", Cond.initialized "java/lang/IllegalArgumentException", Cond.methodLink RX6 101 yX6_prioritiesOf, Cond.instanceMethod yX6_prioritiesOf, Cond.selects RX6 yX6_prioritiesOf yX6_prioritiesOf, Cond.code yX6_prioritiesOf cX6_prioritiesOf 2 (some (.object "ReservoirReed$Priorities")), Cond.fieldLink RX6 22 "ReservoirReed" "mergedPriorities" "LReservoirReed$Priorities;", Cond.fieldLink RX6 155 "ReservoirReed" "size" "I", Cond.fieldLink RX6 10 "ReservoirReed" "stream0" "LReservoirReed$Stream;", Cond.fieldLink RX6 16 "ReservoirReed" "stream1" "LReservoirReed$Stream;", Cond.methodLink RX6 45 yX6_streamOf, Cond.instanceMethod yX6_streamOf, Cond.selects RX6 yX6_streamOf yX6_streamOf, Cond.code yX6_streamOf cX6_streamOf 2 (some (.object "ReservoirReed$Stream"))]
def wsL_priorityItem_r2 : List Cond := [Cond.methodLink RX6 162 yX3_startAgain, Cond.instanceMethod yX3_startAgain, Cond.selects RX3 yX3_startAgain yX3_startAgain, Cond.initialized RX3, Cond.code yX3_startAgain cX3_startAgain 2 none, Cond.fieldLink RX3 24 "ReservoirReed$Priorities" "size" "I", Cond.fieldLink RX3 28 "ReservoirReed$Priorities" "held" "I", Cond.methodLink RX6 165 yX3_addAll, Cond.instanceMethod yX3_addAll, Cond.selects RX3 yX3_addAll yX3_addAll, Cond.code yX3_addAll cX3_addAll 4 none, Cond.fieldLink RX3 9 "ReservoirReed$Priorities" "items" "[I", Cond.fieldLink RX3 15 "ReservoirReed$Priorities" "weights" "[I", Cond.fieldLink RX3 18 "ReservoirReed$Priorities" "groups" "[I", Cond.fieldLink RX3 21 "ReservoirReed$Priorities" "dice" "[I", Cond.static yX6_at, Cond.code yX6_at cX6_at 2 (some .int), Cond.methodLink RX3 35 yX3_add, Cond.instanceMethod yX3_add, Cond.selects RX3 yX3_add yX3_add, Cond.code yX3_add cX3_add 6 none, Cond.methodLink RX3 43 Lib.Math.min.name, Cond.static Lib.Math.min.name, Cond.initialized "java/lang/Math"]
def wsL_priorityItem_r3 : List Cond := [Cond.code Lib.Math.min.name Lib.Math.min.code 2 (some .int), Cond.methodLink RX3 39 yX3_placeFor, Cond.instanceMethod yX3_placeFor, Cond.selects RX3 yX3_placeFor yX3_placeFor, Cond.code yX3_placeFor cX3_placeFor 4 (some .int), Cond.methodLink RX3 52 yX3_isGreater, Cond.instanceMethod yX3_isGreater, Cond.selects RX3 yX3_isGreater yX3_isGreater, Cond.code yX3_isGreater cX3_isGreater 4 (some .boolean), Cond.static yX6_insert, Cond.code yX6_insert cX6_insert 5 none, Cond.methodLink RX6 90 yX6_at, Cond.methodLink RX6 193 yX6_put, Cond.static yX6_put, Cond.code yX6_put cX6_put 3 none, Cond.methodLink RX6 105 yX3_sampled, Cond.instanceMethod yX3_sampled, Cond.selects RX3 yX3_sampled yX3_sampled, Cond.code yX3_sampled cX3_sampled 1 (some .int), Cond.methodLink RX6 83 yX6_checkPlace, Cond.static yX6_checkPlace, Cond.code yX6_checkPlace cX6_checkPlace 2 none, Cond.classLink RX6 188 "java/lang/IndexOutOfBoundsException", Cond.initialized "java/lang/IndexOutOfBoundsException"]
def wsL_priorityItem : List Cond := .codeWith yL_priorityItem cL_priorityItem 5 (some .int) [(0, 10, 13, 13), (0, 10, 17, 38)] :: ((wsL_priorityItem_r1 ++ (wsL_priorityItem_r2 ++ wsL_priorityItem_r3)) ++ wsX30 ++ wsX50 ++ wsX60 ++ (vx_atS RX6 180 "java/lang/IllegalArgumentException" ["java/lang/RuntimeException", "java/lang/Exception"]).filter goodWord ++ (vx_atS RX6 192 "java/lang/IndexOutOfBoundsException" ["java/lang/RuntimeException", "java/lang/Exception"]).filter goodWord)
def wsL_estimatedWeight_r1 : List Cond := [Cond.classLink RL 13 "java/lang/IllegalArgumentException", Cond.classLink RL 38 "java/lang/IndexOutOfBoundsException", Cond.methodLink RL 56 yX6_estimatedWeight, Cond.instanceMethod yX6_estimatedWeight, Cond.selects RX6 yX6_estimatedWeight yX6_estimatedWeight, Cond.initialized RX6, Cond.code yX6_estimatedWeight cX6_estimatedWeight 4 (some .long), Cond.methodLink RX6 37 yX6_checkArgument, Cond.static yX6_checkArgument, Cond.code yX6_checkArgument cX6_checkArgument 3 none, Cond.classLink RX6 176 "java/lang/IllegalArgumentException", Cond.initialized "java/lang/IllegalArgumentException", Cond.methodLink RX6 101 yX6_prioritiesOf, Cond.instanceMethod yX6_prioritiesOf, Cond.selects RX6 yX6_prioritiesOf yX6_prioritiesOf, Cond.code yX6_prioritiesOf cX6_prioritiesOf 2 (some (.object "ReservoirReed$Priorities")), Cond.fieldLink RX6 22 "ReservoirReed" "mergedPriorities" "LReservoirReed$Priorities;", Cond.fieldLink RX6 155 "ReservoirReed" "size" "I", Cond.fieldLink RX6 10 "ReservoirReed" "stream0" "LReservoirReed$Stream;", Cond.fieldLink RX6 16 "ReservoirReed" "stream1" "LReservoirReed$Stream;", Cond.methodLink RX6 45 yX6_streamOf, Cond.instanceMethod yX6_streamOf, Cond.selects RX6 yX6_streamOf yX6_streamOf, Cond.code yX6_streamOf cX6_streamOf 2 (some (.object "ReservoirReed$Stream"))]
def wsL_estimatedWeight_r2 : List Cond := [Cond.methodLink RX6 162 yX3_startAgain, Cond.instanceMethod yX3_startAgain, Cond.selects RX3 yX3_startAgain yX3_startAgain, Cond.initialized RX3, Cond.code yX3_startAgain cX3_startAgain 2 none, Cond.fieldLink RX3 24 "ReservoirReed$Priorities" "size" "I", Cond.fieldLink RX3 28 "ReservoirReed$Priorities" "held" "I", Cond.methodLink RX6 165 yX3_addAll, Cond.instanceMethod yX3_addAll, Cond.selects RX3 yX3_addAll yX3_addAll, Cond.code yX3_addAll cX3_addAll 4 none, Cond.fieldLink RX3 9 "ReservoirReed$Priorities" "items" "[I", Cond.fieldLink RX3 15 "ReservoirReed$Priorities" "weights" "[I", Cond.fieldLink RX3 18 "ReservoirReed$Priorities" "groups" "[I", Cond.fieldLink RX3 21 "ReservoirReed$Priorities" "dice" "[I", Cond.static yX6_at, Cond.code yX6_at cX6_at 2 (some .int), Cond.methodLink RX3 35 yX3_add, Cond.instanceMethod yX3_add, Cond.selects RX3 yX3_add yX3_add, Cond.code yX3_add cX3_add 6 none, Cond.methodLink RX3 43 Lib.Math.min.name, Cond.static Lib.Math.min.name, Cond.initialized "java/lang/Math"]
def wsL_estimatedWeight_r3 : List Cond := [Cond.code Lib.Math.min.name Lib.Math.min.code 2 (some .int), Cond.methodLink RX3 39 yX3_placeFor, Cond.instanceMethod yX3_placeFor, Cond.selects RX3 yX3_placeFor yX3_placeFor, Cond.code yX3_placeFor cX3_placeFor 4 (some .int), Cond.methodLink RX3 52 yX3_isGreater, Cond.instanceMethod yX3_isGreater, Cond.selects RX3 yX3_isGreater yX3_isGreater, Cond.code yX3_isGreater cX3_isGreater 4 (some .boolean), Cond.static yX6_insert, Cond.code yX6_insert cX6_insert 5 none, Cond.methodLink RX6 90 yX6_at, Cond.methodLink RX6 193 yX6_put, Cond.static yX6_put, Cond.code yX6_put cX6_put 3 none, Cond.methodLink RX6 105 yX3_sampled, Cond.instanceMethod yX3_sampled, Cond.selects RX3 yX3_sampled yX3_sampled, Cond.code yX3_sampled cX3_sampled 1 (some .int), Cond.methodLink RX6 83 yX6_checkPlace, Cond.static yX6_checkPlace, Cond.code yX6_checkPlace cX6_checkPlace 2 none, Cond.classLink RX6 188 "java/lang/IndexOutOfBoundsException", Cond.initialized "java/lang/IndexOutOfBoundsException"]
def wsL_estimatedWeight_r4 : List Cond := [Cond.methodLink RX6 109 yX3_estimateAt, Cond.instanceMethod yX3_estimateAt, Cond.selects RX3 yX3_estimateAt yX3_estimateAt, Cond.code yX3_estimateAt cX3_estimateAt 2 (some .long), Cond.methodLink RX3 64 Lib.MathLoose.max_long.x, Cond.static Lib.MathLoose.max_long.x, Cond.code Lib.MathLoose.max_long.x Lib.MathLoose.max_long.code 4 (some .long), Cond.methodLink RX3 60 yX3_bound, Cond.instanceMethod yX3_bound, Cond.selects RX3 yX3_bound yX3_bound, Cond.code yX3_bound cX3_bound 3 (some .long), Cond.static yX6_quotient, Cond.code yX6_quotient cX6_quotient 4 (some .long)]
def wsL_estimatedWeight : List Cond := .codeWith yL_estimatedWeight cL_estimatedWeight 5 (some .int) [(0, 9, 12, 13), (0, 9, 16, 38)] :: ((wsL_estimatedWeight_r1 ++ (wsL_estimatedWeight_r2 ++ (wsL_estimatedWeight_r3 ++ wsL_estimatedWeight_r4))) ++ wsX50 ++ wsX60 ++ wsX30 ++ (vx_atS RX6 180 "java/lang/IllegalArgumentException" ["java/lang/RuntimeException", "java/lang/Exception"]).filter goodWord ++ (vx_atS RX6 192 "java/lang/IndexOutOfBoundsException" ["java/lang/RuntimeException", "java/lang/Exception"]).filter goodWord)
def wsL_threshold_r1 : List Cond := [Cond.classLink RL 13 "java/lang/IllegalArgumentException", Cond.methodLink RL 60 yX6_threshold, Cond.instanceMethod yX6_threshold, Cond.selects RX6 yX6_threshold yX6_threshold, Cond.initialized RX6, Cond.code yX6_threshold cX6_threshold 2 (some .long), Cond.methodLink RX6 37 yX6_checkArgument, Cond.static yX6_checkArgument, Cond.code yX6_checkArgument cX6_checkArgument 3 none, Cond.classLink RX6 176 "java/lang/IllegalArgumentException", Cond.initialized "java/lang/IllegalArgumentException", Cond.methodLink RX6 101 yX6_prioritiesOf, Cond.instanceMethod yX6_prioritiesOf, Cond.selects RX6 yX6_prioritiesOf yX6_prioritiesOf, Cond.code yX6_prioritiesOf cX6_prioritiesOf 2 (some (.object "ReservoirReed$Priorities")), Cond.fieldLink RX6 22 "ReservoirReed" "mergedPriorities" "LReservoirReed$Priorities;", Cond.fieldLink RX6 155 "ReservoirReed" "size" "I", Cond.fieldLink RX6 10 "ReservoirReed" "stream0" "LReservoirReed$Stream;", Cond.fieldLink RX6 16 "ReservoirReed" "stream1" "LReservoirReed$Stream;", Cond.methodLink RX6 45 yX6_streamOf, Cond.instanceMethod yX6_streamOf, Cond.selects RX6 yX6_streamOf yX6_streamOf, Cond.code yX6_streamOf cX6_streamOf 2 (some (.object "ReservoirReed$Stream")), Cond.methodLink RX6 162 yX3_startAgain]
def wsL_threshold_r2 : List Cond := [Cond.instanceMethod yX3_startAgain, Cond.selects RX3 yX3_startAgain yX3_startAgain, Cond.initialized RX3, Cond.code yX3_startAgain cX3_startAgain 2 none, Cond.fieldLink RX3 24 "ReservoirReed$Priorities" "size" "I", Cond.fieldLink RX3 28 "ReservoirReed$Priorities" "held" "I", Cond.methodLink RX6 165 yX3_addAll, Cond.instanceMethod yX3_addAll, Cond.selects RX3 yX3_addAll yX3_addAll, Cond.code yX3_addAll cX3_addAll 4 none, Cond.fieldLink RX3 9 "ReservoirReed$Priorities" "items" "[I", Cond.fieldLink RX3 15 "ReservoirReed$Priorities" "weights" "[I", Cond.fieldLink RX3 18 "ReservoirReed$Priorities" "groups" "[I", Cond.fieldLink RX3 21 "ReservoirReed$Priorities" "dice" "[I", Cond.static yX6_at, Cond.code yX6_at cX6_at 2 (some .int), Cond.methodLink RX3 35 yX3_add, Cond.instanceMethod yX3_add, Cond.selects RX3 yX3_add yX3_add, Cond.code yX3_add cX3_add 6 none, Cond.methodLink RX3 43 Lib.Math.min.name, Cond.static Lib.Math.min.name, Cond.initialized "java/lang/Math", Cond.code Lib.Math.min.name Lib.Math.min.code 2 (some .int)]
def wsL_threshold_r3 : List Cond := [Cond.methodLink RX3 39 yX3_placeFor, Cond.instanceMethod yX3_placeFor, Cond.selects RX3 yX3_placeFor yX3_placeFor, Cond.code yX3_placeFor cX3_placeFor 4 (some .int), Cond.methodLink RX3 52 yX3_isGreater, Cond.instanceMethod yX3_isGreater, Cond.selects RX3 yX3_isGreater yX3_isGreater, Cond.code yX3_isGreater cX3_isGreater 4 (some .boolean), Cond.static yX6_insert, Cond.code yX6_insert cX6_insert 5 none, Cond.methodLink RX6 90 yX6_at, Cond.methodLink RX6 193 yX6_put, Cond.static yX6_put, Cond.code yX6_put cX6_put 3 none, Cond.methodLink RX6 113 yX3_bound, Cond.instanceMethod yX3_bound, Cond.selects RX3 yX3_bound yX3_bound, Cond.code yX3_bound cX3_bound 3 (some .long), Cond.static yX6_quotient, Cond.code yX6_quotient cX6_quotient 4 (some .long)]
def wsL_threshold : List Cond := .codeWith yL_threshold cL_threshold 4 (some .int) [(0, 8, 11, 13)] :: ((wsL_threshold_r1 ++ (wsL_threshold_r2 ++ wsL_threshold_r3)) ++ wsX50 ++ wsX60 ++ wsX30 ++ (vx_atS RX6 180 "java/lang/IllegalArgumentException" ["java/lang/RuntimeException", "java/lang/Exception"]).filter goodWord)
def wsL_estimate_r1 : List Cond := [Cond.classLink RL 13 "java/lang/IllegalArgumentException", Cond.methodLink RL 64 yX6_estimate, Cond.instanceMethod yX6_estimate, Cond.selects RX6 yX6_estimate yX6_estimate, Cond.initialized RX6, Cond.code yX6_estimate cX6_estimate 3 (some .long), Cond.methodLink RX6 37 yX6_checkArgument, Cond.static yX6_checkArgument, Cond.code yX6_checkArgument cX6_checkArgument 3 none, Cond.classLink RX6 176 "java/lang/IllegalArgumentException", Cond.initialized "java/lang/IllegalArgumentException", Cond.methodLink RX6 101 yX6_prioritiesOf, Cond.instanceMethod yX6_prioritiesOf, Cond.selects RX6 yX6_prioritiesOf yX6_prioritiesOf, Cond.code yX6_prioritiesOf cX6_prioritiesOf 2 (some (.object "ReservoirReed$Priorities")), Cond.fieldLink RX6 22 "ReservoirReed" "mergedPriorities" "LReservoirReed$Priorities;", Cond.fieldLink RX6 155 "ReservoirReed" "size" "I", Cond.fieldLink RX6 10 "ReservoirReed" "stream0" "LReservoirReed$Stream;", Cond.fieldLink RX6 16 "ReservoirReed" "stream1" "LReservoirReed$Stream;", Cond.methodLink RX6 45 yX6_streamOf, Cond.instanceMethod yX6_streamOf, Cond.selects RX6 yX6_streamOf yX6_streamOf, Cond.code yX6_streamOf cX6_streamOf 2 (some (.object "ReservoirReed$Stream")), Cond.methodLink RX6 162 yX3_startAgain]
def wsL_estimate_r2 : List Cond := [Cond.instanceMethod yX3_startAgain, Cond.selects RX3 yX3_startAgain yX3_startAgain, Cond.initialized RX3, Cond.code yX3_startAgain cX3_startAgain 2 none, Cond.fieldLink RX3 24 "ReservoirReed$Priorities" "size" "I", Cond.fieldLink RX3 28 "ReservoirReed$Priorities" "held" "I", Cond.methodLink RX6 165 yX3_addAll, Cond.instanceMethod yX3_addAll, Cond.selects RX3 yX3_addAll yX3_addAll, Cond.code yX3_addAll cX3_addAll 4 none, Cond.fieldLink RX3 9 "ReservoirReed$Priorities" "items" "[I", Cond.fieldLink RX3 15 "ReservoirReed$Priorities" "weights" "[I", Cond.fieldLink RX3 18 "ReservoirReed$Priorities" "groups" "[I", Cond.fieldLink RX3 21 "ReservoirReed$Priorities" "dice" "[I", Cond.static yX6_at, Cond.code yX6_at cX6_at 2 (some .int), Cond.methodLink RX3 35 yX3_add, Cond.instanceMethod yX3_add, Cond.selects RX3 yX3_add yX3_add, Cond.code yX3_add cX3_add 6 none, Cond.methodLink RX3 43 Lib.Math.min.name, Cond.static Lib.Math.min.name, Cond.initialized "java/lang/Math", Cond.code Lib.Math.min.name Lib.Math.min.code 2 (some .int)]
def wsL_estimate_r3 : List Cond := [Cond.methodLink RX3 39 yX3_placeFor, Cond.instanceMethod yX3_placeFor, Cond.selects RX3 yX3_placeFor yX3_placeFor, Cond.code yX3_placeFor cX3_placeFor 4 (some .int), Cond.methodLink RX3 52 yX3_isGreater, Cond.instanceMethod yX3_isGreater, Cond.selects RX3 yX3_isGreater yX3_isGreater, Cond.code yX3_isGreater cX3_isGreater 4 (some .boolean), Cond.static yX6_insert, Cond.code yX6_insert cX6_insert 5 none, Cond.methodLink RX6 90 yX6_at, Cond.methodLink RX6 193 yX6_put, Cond.static yX6_put, Cond.code yX6_put cX6_put 3 none, Cond.methodLink RX6 117 yX3_estimatedSum, Cond.instanceMethod yX3_estimatedSum, Cond.selects RX3 yX3_estimatedSum yX3_estimatedSum, Cond.code yX3_estimatedSum cX3_estimatedSum 6 (some .long), Cond.methodLink RX3 67 yX3_sampled, Cond.instanceMethod yX3_sampled, Cond.selects RX3 yX3_sampled yX3_sampled, Cond.code yX3_sampled cX3_sampled 1 (some .int), Cond.methodLink RX3 71 yX3_estimateAt, Cond.instanceMethod yX3_estimateAt]
def wsL_estimate_r4 : List Cond := [Cond.selects RX3 yX3_estimateAt yX3_estimateAt, Cond.code yX3_estimateAt cX3_estimateAt 2 (some .long), Cond.methodLink RX3 64 Lib.MathLoose.max_long.x, Cond.static Lib.MathLoose.max_long.x, Cond.code Lib.MathLoose.max_long.x Lib.MathLoose.max_long.code 4 (some .long), Cond.methodLink RX3 60 yX3_bound, Cond.instanceMethod yX3_bound, Cond.selects RX3 yX3_bound yX3_bound, Cond.code yX3_bound cX3_bound 3 (some .long), Cond.static yX6_quotient, Cond.code yX6_quotient cX6_quotient 4 (some .long)]
def wsL_estimate : List Cond := .codeWith yL_estimate cL_estimate 5 (some .int) [(0, 9, 12, 13)] :: ((wsL_estimate_r1 ++ (wsL_estimate_r2 ++ (wsL_estimate_r3 ++ wsL_estimate_r4))) ++ wsX50 ++ wsX60 ++ wsX30 ++ (vx_atS RX6 180 "java/lang/IllegalArgumentException" ["java/lang/RuntimeException", "java/lang/Exception"]).filter goodWord)
def wsL_sampledWeight_r1 : List Cond := [Cond.classLink RL 13 "java/lang/IllegalArgumentException", Cond.methodLink RL 67 yX6_sampledWeight, Cond.instanceMethod yX6_sampledWeight, Cond.selects RX6 yX6_sampledWeight yX6_sampledWeight, Cond.initialized RX6, Cond.code yX6_sampledWeight cX6_sampledWeight 3 (some .int), Cond.methodLink RX6 37 yX6_checkArgument, Cond.static yX6_checkArgument, Cond.code yX6_checkArgument cX6_checkArgument 3 none, Cond.classLink RX6 176 "java/lang/IllegalArgumentException", Cond.initialized "java/lang/IllegalArgumentException", Cond.methodLink RX6 101 yX6_prioritiesOf, Cond.instanceMethod yX6_prioritiesOf, Cond.selects RX6 yX6_prioritiesOf yX6_prioritiesOf, Cond.code yX6_prioritiesOf cX6_prioritiesOf 2 (some (.object "ReservoirReed$Priorities")), Cond.fieldLink RX6 22 "ReservoirReed" "mergedPriorities" "LReservoirReed$Priorities;", Cond.fieldLink RX6 155 "ReservoirReed" "size" "I", Cond.fieldLink RX6 10 "ReservoirReed" "stream0" "LReservoirReed$Stream;", Cond.fieldLink RX6 16 "ReservoirReed" "stream1" "LReservoirReed$Stream;", Cond.methodLink RX6 45 yX6_streamOf, Cond.instanceMethod yX6_streamOf, Cond.selects RX6 yX6_streamOf yX6_streamOf, Cond.code yX6_streamOf cX6_streamOf 2 (some (.object "ReservoirReed$Stream")), Cond.methodLink RX6 162 yX3_startAgain]
def wsL_sampledWeight_r2 : List Cond := [Cond.instanceMethod yX3_startAgain, Cond.selects RX3 yX3_startAgain yX3_startAgain, Cond.initialized RX3, Cond.code yX3_startAgain cX3_startAgain 2 none, Cond.fieldLink RX3 24 "ReservoirReed$Priorities" "size" "I", Cond.fieldLink RX3 28 "ReservoirReed$Priorities" "held" "I", Cond.methodLink RX6 165 yX3_addAll, Cond.instanceMethod yX3_addAll, Cond.selects RX3 yX3_addAll yX3_addAll, Cond.code yX3_addAll cX3_addAll 4 none, Cond.fieldLink RX3 9 "ReservoirReed$Priorities" "items" "[I", Cond.fieldLink RX3 15 "ReservoirReed$Priorities" "weights" "[I", Cond.fieldLink RX3 18 "ReservoirReed$Priorities" "groups" "[I", Cond.fieldLink RX3 21 "ReservoirReed$Priorities" "dice" "[I", Cond.static yX6_at, Cond.code yX6_at cX6_at 2 (some .int), Cond.methodLink RX3 35 yX3_add, Cond.instanceMethod yX3_add, Cond.selects RX3 yX3_add yX3_add, Cond.code yX3_add cX3_add 6 none, Cond.methodLink RX3 43 Lib.Math.min.name, Cond.static Lib.Math.min.name, Cond.initialized "java/lang/Math", Cond.code Lib.Math.min.name Lib.Math.min.code 2 (some .int)]
def wsL_sampledWeight_r3 : List Cond := [Cond.methodLink RX3 39 yX3_placeFor, Cond.instanceMethod yX3_placeFor, Cond.selects RX3 yX3_placeFor yX3_placeFor, Cond.code yX3_placeFor cX3_placeFor 4 (some .int), Cond.methodLink RX3 52 yX3_isGreater, Cond.instanceMethod yX3_isGreater, Cond.selects RX3 yX3_isGreater yX3_isGreater, Cond.code yX3_isGreater cX3_isGreater 4 (some .boolean), Cond.static yX6_insert, Cond.code yX6_insert cX6_insert 5 none, Cond.methodLink RX6 90 yX6_at, Cond.methodLink RX6 193 yX6_put, Cond.static yX6_put, Cond.code yX6_put cX6_put 3 none, Cond.methodLink RX6 120 yX3_weightSum, Cond.instanceMethod yX3_weightSum, Cond.selects RX3 yX3_weightSum yX3_weightSum, Cond.code yX3_weightSum cX3_weightSum 5 (some .int), Cond.methodLink RX3 67 yX3_sampled, Cond.instanceMethod yX3_sampled, Cond.selects RX3 yX3_sampled yX3_sampled, Cond.code yX3_sampled cX3_sampled 1 (some .int)]
def wsL_sampledWeight : List Cond := .codeWith yL_sampledWeight cL_sampledWeight 5 (some .int) [(0, 10, 13, 13)] :: ((wsL_sampledWeight_r1 ++ (wsL_sampledWeight_r2 ++ wsL_sampledWeight_r3)) ++ wsX50 ++ wsX60 ++ wsX30 ++ (vx_atS RX6 180 "java/lang/IllegalArgumentException" ["java/lang/RuntimeException", "java/lang/Exception"]).filter goodWord)
def wsL_distinctSize_r1 : List Cond := [Cond.classLink RL 13 "java/lang/IllegalArgumentException", Cond.methodLink RL 70 yX6_distinctSize, Cond.instanceMethod yX6_distinctSize, Cond.selects RX6 yX6_distinctSize yX6_distinctSize, Cond.initialized RX6, Cond.code yX6_distinctSize cX6_distinctSize 2 (some .int), Cond.methodLink RX6 37 yX6_checkArgument, Cond.static yX6_checkArgument, Cond.code yX6_checkArgument cX6_checkArgument 3 none, Cond.classLink RX6 176 "java/lang/IllegalArgumentException", Cond.initialized "java/lang/IllegalArgumentException", Cond.methodLink RX6 124 yX6_distinctOf, Cond.instanceMethod yX6_distinctOf, Cond.selects RX6 yX6_distinctOf yX6_distinctOf, Cond.code yX6_distinctOf cX6_distinctOf 2 (some (.object "ReservoirReed$Distinct")), Cond.fieldLink RX6 29 "ReservoirReed" "mergedDistinct" "LReservoirReed$Distinct;", Cond.fieldLink RX6 155 "ReservoirReed" "size" "I", Cond.fieldLink RX6 10 "ReservoirReed" "stream0" "LReservoirReed$Stream;", Cond.fieldLink RX6 16 "ReservoirReed" "stream1" "LReservoirReed$Stream;", Cond.methodLink RX6 45 yX6_streamOf, Cond.instanceMethod yX6_streamOf, Cond.selects RX6 yX6_streamOf yX6_streamOf, Cond.code yX6_streamOf cX6_streamOf 2 (some (.object "ReservoirReed$Stream")), Cond.methodLink RX6 172 yX1_startAgain]
def wsL_distinctSize_r2 : List Cond := [Cond.instanceMethod yX1_startAgain, Cond.selects RX1 yX1_startAgain yX1_startAgain, Cond.initialized RX1, Cond.code yX1_startAgain cX1_startAgain 2 none, Cond.fieldLink RX1 18 "ReservoirReed$Distinct" "size" "I", Cond.fieldLink RX1 22 "ReservoirReed$Distinct" "held" "I", Cond.methodLink RX6 173 yX1_addAll, Cond.instanceMethod yX1_addAll, Cond.selects RX1 yX1_addAll yX1_addAll, Cond.code yX1_addAll cX1_addAll 4 none, Cond.fieldLink RX1 9 "ReservoirReed$Distinct" "items" "[I", Cond.fieldLink RX1 15 "ReservoirReed$Distinct" "times" "[I", Cond.static yX6_at, Cond.code yX6_at cX6_at 2 (some .int), Cond.methodLink RX1 29 yX1_add, Cond.instanceMethod yX1_add, Cond.selects RX1 yX1_add yX1_add, Cond.code yX1_add cX1_add 4 none, Cond.methodLink RX1 41 Lib.Math.min.name, Cond.static Lib.Math.min.name, Cond.initialized "java/lang/Math", Cond.code Lib.Math.min.name Lib.Math.min.code 2 (some .int), Cond.methodLink RX1 33 yX1_placeFor, Cond.instanceMethod yX1_placeFor]
def wsL_distinctSize_r3 : List Cond := [Cond.selects RX1 yX1_placeFor yX1_placeFor, Cond.code yX1_placeFor cX1_placeFor 5 (some .int), Cond.methodLink RX1 51 yX1_hashOf, Cond.static yX1_hashOf, Cond.code yX1_hashOf cX1_hashOf 1 (some .long), Cond.constantLong RX1 55 (2654435761), Cond.constantLong RX1 57 (4294967296), Cond.static yX6_put, Cond.code yX6_put cX6_put 3 none, Cond.static yX6_insert, Cond.code yX6_insert cX6_insert 5 none, Cond.methodLink RX6 90 yX6_at, Cond.methodLink RX6 193 yX6_put]
def wsL_distinctSize : List Cond := .codeWith yL_distinctSize cL_distinctSize 4 (some .int) [(0, 9, 12, 13)] :: ((wsL_distinctSize_r1 ++ (wsL_distinctSize_r2 ++ wsL_distinctSize_r3)) ++ wsX10 ++ wsX50 ++ wsX60 ++ (vx_atS RX6 180 "java/lang/IllegalArgumentException" ["java/lang/RuntimeException", "java/lang/Exception"]).filter goodWord)
def wsL_distinctItem_r1 : List Cond := [Cond.classLink RL 13 "java/lang/IllegalArgumentException", Cond.classLink RL 38 "java/lang/IndexOutOfBoundsException", Cond.methodLink RL 73 yX6_distinctItem, Cond.instanceMethod yX6_distinctItem, Cond.selects RX6 yX6_distinctItem yX6_distinctItem, Cond.initialized RX6, Cond.code yX6_distinctItem cX6_distinctItem 4 (some .int), Cond.methodLink RX6 37 yX6_checkArgument, Cond.static yX6_checkArgument, Cond.code yX6_checkArgument cX6_checkArgument 3 none, Cond.classLink RX6 176 "java/lang/IllegalArgumentException", Cond.initialized "java/lang/IllegalArgumentException", Cond.methodLink RX6 124 yX6_distinctOf, Cond.instanceMethod yX6_distinctOf, Cond.selects RX6 yX6_distinctOf yX6_distinctOf, Cond.code yX6_distinctOf cX6_distinctOf 2 (some (.object "ReservoirReed$Distinct")), Cond.fieldLink RX6 29 "ReservoirReed" "mergedDistinct" "LReservoirReed$Distinct;", Cond.fieldLink RX6 155 "ReservoirReed" "size" "I", Cond.fieldLink RX6 10 "ReservoirReed" "stream0" "LReservoirReed$Stream;", Cond.fieldLink RX6 16 "ReservoirReed" "stream1" "LReservoirReed$Stream;", Cond.methodLink RX6 45 yX6_streamOf, Cond.instanceMethod yX6_streamOf, Cond.selects RX6 yX6_streamOf yX6_streamOf, Cond.code yX6_streamOf cX6_streamOf 2 (some (.object "ReservoirReed$Stream"))]
def wsL_distinctItem_r2 : List Cond := [Cond.methodLink RX6 172 yX1_startAgain, Cond.instanceMethod yX1_startAgain, Cond.selects RX1 yX1_startAgain yX1_startAgain, Cond.initialized RX1, Cond.code yX1_startAgain cX1_startAgain 2 none, Cond.fieldLink RX1 18 "ReservoirReed$Distinct" "size" "I", Cond.fieldLink RX1 22 "ReservoirReed$Distinct" "held" "I", Cond.methodLink RX6 173 yX1_addAll, Cond.instanceMethod yX1_addAll, Cond.selects RX1 yX1_addAll yX1_addAll, Cond.code yX1_addAll cX1_addAll 4 none, Cond.fieldLink RX1 9 "ReservoirReed$Distinct" "items" "[I", Cond.fieldLink RX1 15 "ReservoirReed$Distinct" "times" "[I", Cond.static yX6_at, Cond.code yX6_at cX6_at 2 (some .int), Cond.methodLink RX1 29 yX1_add, Cond.instanceMethod yX1_add, Cond.selects RX1 yX1_add yX1_add, Cond.code yX1_add cX1_add 4 none, Cond.methodLink RX1 41 Lib.Math.min.name, Cond.static Lib.Math.min.name, Cond.initialized "java/lang/Math", Cond.code Lib.Math.min.name Lib.Math.min.code 2 (some .int), Cond.methodLink RX1 33 yX1_placeFor]
def wsL_distinctItem_r3 : List Cond := [Cond.instanceMethod yX1_placeFor, Cond.selects RX1 yX1_placeFor yX1_placeFor, Cond.code yX1_placeFor cX1_placeFor 5 (some .int), Cond.methodLink RX1 51 yX1_hashOf, Cond.static yX1_hashOf, Cond.code yX1_hashOf cX1_hashOf 1 (some .long), Cond.constantLong RX1 55 (2654435761), Cond.constantLong RX1 57 (4294967296), Cond.static yX6_put, Cond.code yX6_put cX6_put 3 none, Cond.static yX6_insert, Cond.code yX6_insert cX6_insert 5 none, Cond.methodLink RX6 90 yX6_at, Cond.methodLink RX6 193 yX6_put, Cond.methodLink RX6 83 yX6_checkPlace, Cond.static yX6_checkPlace, Cond.code yX6_checkPlace cX6_checkPlace 2 none, Cond.classLink RX6 188 "java/lang/IndexOutOfBoundsException", Cond.initialized "java/lang/IndexOutOfBoundsException"]
def wsL_distinctItem : List Cond := .codeWith yL_distinctItem cL_distinctItem 5 (some .int) [(0, 10, 13, 13), (0, 10, 17, 38)] :: ((wsL_distinctItem_r1 ++ (wsL_distinctItem_r2 ++ wsL_distinctItem_r3)) ++ wsX10 ++ wsX50 ++ wsX60 ++ (vx_atS RX6 180 "java/lang/IllegalArgumentException" ["java/lang/RuntimeException", "java/lang/Exception"]).filter goodWord ++ (vx_atS RX6 192 "java/lang/IndexOutOfBoundsException" ["java/lang/RuntimeException", "java/lang/Exception"]).filter goodWord)
def wsL_distinctOffers_r1 : List Cond := [Cond.classLink RL 13 "java/lang/IllegalArgumentException", Cond.classLink RL 38 "java/lang/IndexOutOfBoundsException", Cond.methodLink RL 76 yX6_distinctOffers, Cond.instanceMethod yX6_distinctOffers, Cond.selects RX6 yX6_distinctOffers yX6_distinctOffers, Cond.initialized RX6, Cond.code yX6_distinctOffers cX6_distinctOffers 4 (some .int), Cond.methodLink RX6 37 yX6_checkArgument, Cond.static yX6_checkArgument, Cond.code yX6_checkArgument cX6_checkArgument 3 none, Cond.classLink RX6 176 "java/lang/IllegalArgumentException", Cond.initialized "java/lang/IllegalArgumentException", Cond.methodLink RX6 124 yX6_distinctOf, Cond.instanceMethod yX6_distinctOf, Cond.selects RX6 yX6_distinctOf yX6_distinctOf, Cond.code yX6_distinctOf cX6_distinctOf 2 (some (.object "ReservoirReed$Distinct")), Cond.fieldLink RX6 29 "ReservoirReed" "mergedDistinct" "LReservoirReed$Distinct;", Cond.fieldLink RX6 155 "ReservoirReed" "size" "I", Cond.fieldLink RX6 10 "ReservoirReed" "stream0" "LReservoirReed$Stream;", Cond.fieldLink RX6 16 "ReservoirReed" "stream1" "LReservoirReed$Stream;", Cond.methodLink RX6 45 yX6_streamOf, Cond.instanceMethod yX6_streamOf, Cond.selects RX6 yX6_streamOf yX6_streamOf, Cond.code yX6_streamOf cX6_streamOf 2 (some (.object "ReservoirReed$Stream"))]
def wsL_distinctOffers_r2 : List Cond := [Cond.methodLink RX6 172 yX1_startAgain, Cond.instanceMethod yX1_startAgain, Cond.selects RX1 yX1_startAgain yX1_startAgain, Cond.initialized RX1, Cond.code yX1_startAgain cX1_startAgain 2 none, Cond.fieldLink RX1 18 "ReservoirReed$Distinct" "size" "I", Cond.fieldLink RX1 22 "ReservoirReed$Distinct" "held" "I", Cond.methodLink RX6 173 yX1_addAll, Cond.instanceMethod yX1_addAll, Cond.selects RX1 yX1_addAll yX1_addAll, Cond.code yX1_addAll cX1_addAll 4 none, Cond.fieldLink RX1 9 "ReservoirReed$Distinct" "items" "[I", Cond.fieldLink RX1 15 "ReservoirReed$Distinct" "times" "[I", Cond.static yX6_at, Cond.code yX6_at cX6_at 2 (some .int), Cond.methodLink RX1 29 yX1_add, Cond.instanceMethod yX1_add, Cond.selects RX1 yX1_add yX1_add, Cond.code yX1_add cX1_add 4 none, Cond.methodLink RX1 41 Lib.Math.min.name, Cond.static Lib.Math.min.name, Cond.initialized "java/lang/Math", Cond.code Lib.Math.min.name Lib.Math.min.code 2 (some .int), Cond.methodLink RX1 33 yX1_placeFor]
def wsL_distinctOffers_r3 : List Cond := [Cond.instanceMethod yX1_placeFor, Cond.selects RX1 yX1_placeFor yX1_placeFor, Cond.code yX1_placeFor cX1_placeFor 5 (some .int), Cond.methodLink RX1 51 yX1_hashOf, Cond.static yX1_hashOf, Cond.code yX1_hashOf cX1_hashOf 1 (some .long), Cond.constantLong RX1 55 (2654435761), Cond.constantLong RX1 57 (4294967296), Cond.static yX6_put, Cond.code yX6_put cX6_put 3 none, Cond.static yX6_insert, Cond.code yX6_insert cX6_insert 5 none, Cond.methodLink RX6 90 yX6_at, Cond.methodLink RX6 193 yX6_put, Cond.methodLink RX6 83 yX6_checkPlace, Cond.static yX6_checkPlace, Cond.code yX6_checkPlace cX6_checkPlace 2 none, Cond.classLink RX6 188 "java/lang/IndexOutOfBoundsException", Cond.initialized "java/lang/IndexOutOfBoundsException"]
def wsL_distinctOffers : List Cond := .codeWith yL_distinctOffers cL_distinctOffers 5 (some .int) [(0, 10, 13, 13), (0, 10, 17, 38)] :: ((wsL_distinctOffers_r1 ++ (wsL_distinctOffers_r2 ++ wsL_distinctOffers_r3)) ++ wsX10 ++ wsX50 ++ wsX60 ++ (vx_atS RX6 180 "java/lang/IllegalArgumentException" ["java/lang/RuntimeException", "java/lang/Exception"]).filter goodWord ++ (vx_atS RX6 192 "java/lang/IndexOutOfBoundsException" ["java/lang/RuntimeException", "java/lang/Exception"]).filter goodWord)
def wsL_distinctEstimate_r1 : List Cond := [Cond.classLink RL 13 "java/lang/IllegalArgumentException", Cond.methodLink RL 79 yX6_distinctEstimate, Cond.instanceMethod yX6_distinctEstimate, Cond.selects RX6 yX6_distinctEstimate yX6_distinctEstimate, Cond.initialized RX6, Cond.code yX6_distinctEstimate cX6_distinctEstimate 2 (some .long), Cond.methodLink RX6 37 yX6_checkArgument, Cond.static yX6_checkArgument, Cond.code yX6_checkArgument cX6_checkArgument 3 none, Cond.classLink RX6 176 "java/lang/IllegalArgumentException", Cond.initialized "java/lang/IllegalArgumentException", Cond.methodLink RX6 124 yX6_distinctOf, Cond.instanceMethod yX6_distinctOf, Cond.selects RX6 yX6_distinctOf yX6_distinctOf, Cond.code yX6_distinctOf cX6_distinctOf 2 (some (.object "ReservoirReed$Distinct")), Cond.fieldLink RX6 29 "ReservoirReed" "mergedDistinct" "LReservoirReed$Distinct;", Cond.fieldLink RX6 155 "ReservoirReed" "size" "I", Cond.fieldLink RX6 10 "ReservoirReed" "stream0" "LReservoirReed$Stream;", Cond.fieldLink RX6 16 "ReservoirReed" "stream1" "LReservoirReed$Stream;", Cond.methodLink RX6 45 yX6_streamOf, Cond.instanceMethod yX6_streamOf, Cond.selects RX6 yX6_streamOf yX6_streamOf, Cond.code yX6_streamOf cX6_streamOf 2 (some (.object "ReservoirReed$Stream")), Cond.methodLink RX6 172 yX1_startAgain]
def wsL_distinctEstimate_r2 : List Cond := [Cond.instanceMethod yX1_startAgain, Cond.selects RX1 yX1_startAgain yX1_startAgain, Cond.initialized RX1, Cond.code yX1_startAgain cX1_startAgain 2 none, Cond.fieldLink RX1 18 "ReservoirReed$Distinct" "size" "I", Cond.fieldLink RX1 22 "ReservoirReed$Distinct" "held" "I", Cond.methodLink RX6 173 yX1_addAll, Cond.instanceMethod yX1_addAll, Cond.selects RX1 yX1_addAll yX1_addAll, Cond.code yX1_addAll cX1_addAll 4 none, Cond.fieldLink RX1 9 "ReservoirReed$Distinct" "items" "[I", Cond.fieldLink RX1 15 "ReservoirReed$Distinct" "times" "[I", Cond.static yX6_at, Cond.code yX6_at cX6_at 2 (some .int), Cond.methodLink RX1 29 yX1_add, Cond.instanceMethod yX1_add, Cond.selects RX1 yX1_add yX1_add, Cond.code yX1_add cX1_add 4 none, Cond.methodLink RX1 41 Lib.Math.min.name, Cond.static Lib.Math.min.name, Cond.initialized "java/lang/Math", Cond.code Lib.Math.min.name Lib.Math.min.code 2 (some .int), Cond.methodLink RX1 33 yX1_placeFor, Cond.instanceMethod yX1_placeFor]
def wsL_distinctEstimate_r3 : List Cond := [Cond.selects RX1 yX1_placeFor yX1_placeFor, Cond.code yX1_placeFor cX1_placeFor 5 (some .int), Cond.methodLink RX1 51 yX1_hashOf, Cond.static yX1_hashOf, Cond.code yX1_hashOf cX1_hashOf 1 (some .long), Cond.constantLong RX1 55 (2654435761), Cond.constantLong RX1 57 (4294967296), Cond.static yX6_put, Cond.code yX6_put cX6_put 3 none, Cond.static yX6_insert, Cond.code yX6_insert cX6_insert 5 none, Cond.methodLink RX6 90 yX6_at, Cond.methodLink RX6 193 yX6_put, Cond.methodLink RX6 135 yX1_estimatedCount, Cond.instanceMethod yX1_estimatedCount, Cond.selects RX1 yX1_estimatedCount yX1_estimatedCount, Cond.code yX1_estimatedCount cX1_estimatedCount 1 (some .long), Cond.static yX6_quotient, Cond.code yX6_quotient cX6_quotient 4 (some .long)]
def wsL_distinctEstimate : List Cond := .codeWith yL_distinctEstimate cL_distinctEstimate 4 (some .int) [(0, 8, 11, 13)] :: ((wsL_distinctEstimate_r1 ++ (wsL_distinctEstimate_r2 ++ wsL_distinctEstimate_r3)) ++ wsX50 ++ wsX60 ++ wsX10 ++ (vx_atS RX6 180 "java/lang/IllegalArgumentException" ["java/lang/RuntimeException", "java/lang/Exception"]).filter goodWord)
def wsL_windowItem_r1 : List Cond := [Cond.classLink RL 13 "java/lang/IllegalArgumentException", Cond.classLink RL 19 "java/lang/IllegalStateException", Cond.methodLink RL 82 yX6_windowItem, Cond.instanceMethod yX6_windowItem, Cond.selects RX6 yX6_windowItem yX6_windowItem, Cond.initialized RX6, Cond.code yX6_windowItem cX6_windowItem 3 (some .int), Cond.methodLink RX6 37 yX6_checkArgument, Cond.static yX6_checkArgument, Cond.code yX6_checkArgument cX6_checkArgument 3 none, Cond.classLink RX6 176 "java/lang/IllegalArgumentException", Cond.initialized "java/lang/IllegalArgumentException", Cond.methodLink RX6 45 yX6_streamOf, Cond.instanceMethod yX6_streamOf, Cond.selects RX6 yX6_streamOf yX6_streamOf, Cond.code yX6_streamOf cX6_streamOf 2 (some (.object "ReservoirReed$Stream")), Cond.fieldLink RX6 10 "ReservoirReed" "stream0" "LReservoirReed$Stream;", Cond.fieldLink RX6 16 "ReservoirReed" "stream1" "LReservoirReed$Stream;", Cond.methodLink RX6 53 yX6_checkState, Cond.static yX6_checkState, Cond.code yX6_checkState cX6_checkState 1 none, Cond.classLink RX6 183 "java/lang/IllegalStateException", Cond.initialized "java/lang/IllegalStateException", Cond.methodLink RX6 90 yX6_at]
def wsL_windowItem_r2 : List Cond := [Cond.static yX6_at, Cond.code yX6_at cX6_at 2 (some .int)]
def wsL_windowItem : List Cond := .codeWith yL_windowItem cL_windowItem 4 (some .int) [(0, 9, 12, 13), (0, 9, 15, 19)] :: ((wsL_windowItem_r1 ++ wsL_windowItem_r2) ++ wsX50 ++ wsX00 ++ wsX60 ++ (vx_atS RX6 180 "java/lang/IllegalArgumentException" ["java/lang/RuntimeException", "java/lang/Exception"]).filter goodWord ++ (vx_atS RX6 187 "java/lang/IllegalStateException" ["java/lang/RuntimeException", "java/lang/Exception"]).filter goodWord)
def wsL_windowPosition_r1 : List Cond := [Cond.classLink RL 13 "java/lang/IllegalArgumentException", Cond.classLink RL 19 "java/lang/IllegalStateException", Cond.methodLink RL 85 yX6_windowPosition, Cond.instanceMethod yX6_windowPosition, Cond.selects RX6 yX6_windowPosition yX6_windowPosition, Cond.initialized RX6, Cond.code yX6_windowPosition cX6_windowPosition 3 (some .int), Cond.methodLink RX6 37 yX6_checkArgument, Cond.static yX6_checkArgument, Cond.code yX6_checkArgument cX6_checkArgument 3 none, Cond.classLink RX6 176 "java/lang/IllegalArgumentException", Cond.initialized "java/lang/IllegalArgumentException", Cond.methodLink RX6 45 yX6_streamOf, Cond.instanceMethod yX6_streamOf, Cond.selects RX6 yX6_streamOf yX6_streamOf, Cond.code yX6_streamOf cX6_streamOf 2 (some (.object "ReservoirReed$Stream")), Cond.fieldLink RX6 10 "ReservoirReed" "stream0" "LReservoirReed$Stream;", Cond.fieldLink RX6 16 "ReservoirReed" "stream1" "LReservoirReed$Stream;", Cond.methodLink RX6 53 yX6_checkState, Cond.static yX6_checkState, Cond.code yX6_checkState cX6_checkState 1 none, Cond.classLink RX6 183 "java/lang/IllegalStateException", Cond.initialized "java/lang/IllegalStateException", Cond.methodLink RX6 90 yX6_at]
def wsL_windowPosition_r2 : List Cond := [Cond.static yX6_at, Cond.code yX6_at cX6_at 2 (some .int)]
def wsL_windowPosition : List Cond := .codeWith yL_windowPosition cL_windowPosition 4 (some .int) [(0, 9, 12, 13), (0, 9, 15, 19)] :: ((wsL_windowPosition_r1 ++ wsL_windowPosition_r2) ++ wsX50 ++ wsX00 ++ wsX60 ++ (vx_atS RX6 180 "java/lang/IllegalArgumentException" ["java/lang/RuntimeException", "java/lang/Exception"]).filter goodWord ++ (vx_atS RX6 187 "java/lang/IllegalStateException" ["java/lang/RuntimeException", "java/lang/Exception"]).filter goodWord)
def wsL_chainLength : List Cond := .codeWith yL_chainLength cL_chainLength 4 (some .int) [(0, 9, 12, 13)] :: ([.classLink RL 13 "java/lang/IllegalArgumentException", .methodLink RL 88 yX6_chainLength, .instanceMethod yX6_chainLength, .selects RX6 yX6_chainLength yX6_chainLength, .initialized RX6, .code yX6_chainLength cX6_chainLength 2 (some .int), .methodLink RX6 37 yX6_checkArgument, .static yX6_checkArgument, .code yX6_checkArgument cX6_checkArgument 3 none, .classLink RX6 176 "java/lang/IllegalArgumentException", .initialized "java/lang/IllegalArgumentException", .methodLink RX6 45 yX6_streamOf, .instanceMethod yX6_streamOf, .selects RX6 yX6_streamOf yX6_streamOf, .code yX6_streamOf cX6_streamOf 2 (some (.object "ReservoirReed$Stream")), .fieldLink RX6 10 "ReservoirReed" "stream0" "LReservoirReed$Stream;", .fieldLink RX6 16 "ReservoirReed" "stream1" "LReservoirReed$Stream;", .methodLink RX6 149 yX0_length, .instanceMethod yX0_length, .selects RX0 yX0_length yX0_length, .initialized RX0, .code yX0_length cX0_length 1 (some .int), .fieldLink RX0 25 "ReservoirReed$Chain" "end" "I", .fieldLink RX0 22 "ReservoirReed$Chain" "start" "I"] ++ wsX50 ++ wsX60 ++ wsX00 ++ (vx_atS RX6 180 "java/lang/IllegalArgumentException" ["java/lang/RuntimeException", "java/lang/Exception"]).filter goodWord)
def wsL_successor : List Cond := .codeWith yL_successor cL_successor 4 (some .int) [(0, 9, 12, 13), (0, 9, 15, 19)] :: ([.classLink RL 13 "java/lang/IllegalArgumentException", .classLink RL 19 "java/lang/IllegalStateException", .methodLink RL 91 yX6_successor, .instanceMethod yX6_successor, .selects RX6 yX6_successor yX6_successor, .initialized RX6, .code yX6_successor cX6_successor 3 (some .int), .methodLink RX6 37 yX6_checkArgument, .static yX6_checkArgument, .code yX6_checkArgument cX6_checkArgument 3 none, .classLink RX6 176 "java/lang/IllegalArgumentException", .initialized "java/lang/IllegalArgumentException", .methodLink RX6 45 yX6_streamOf, .instanceMethod yX6_streamOf, .selects RX6 yX6_streamOf yX6_streamOf, .code yX6_streamOf cX6_streamOf 2 (some (.object "ReservoirReed$Stream")), .fieldLink RX6 10 "ReservoirReed" "stream0" "LReservoirReed$Stream;", .fieldLink RX6 16 "ReservoirReed" "stream1" "LReservoirReed$Stream;", .methodLink RX6 53 yX6_checkState, .static yX6_checkState, .code yX6_checkState cX6_checkState 1 none, .classLink RX6 183 "java/lang/IllegalStateException", .initialized "java/lang/IllegalStateException"] ++ wsX50 ++ wsX00 ++ wsX60 ++ (vx_atS RX6 180 "java/lang/IllegalArgumentException" ["java/lang/RuntimeException", "java/lang/Exception"]).filter goodWord ++ (vx_atS RX6 187 "java/lang/IllegalStateException" ["java/lang/RuntimeException", "java/lang/Exception"]).filter goodWord)
def wsL_law0_r1 : List Cond := [Cond.classLink RL 8 RX6, Cond.instantiable RX6 5, Cond.initialized RX6, Cond.classLink RL 95 RX7, Cond.instantiable RX7 13, Cond.initialized RX7, Cond.arrayClass .long, Cond.methodLink RL 94 yX6_init, Cond.instanceMethod yX6_init, Cond.code yX6_init cX6_init 1 none, Cond.methodLink RX6 1 objectInit, Cond.instanceMethod objectInit, Cond.code objectInit ⟨#[0xb1]⟩ 1 none, Cond.classLink RX6 7 RX5, Cond.instantiable RX5 11, Cond.initialized RX5, Cond.fieldLink RX6 10 "ReservoirReed" "stream0" "LReservoirReed$Stream;", Cond.fieldLink RX6 16 "ReservoirReed" "stream1" "LReservoirReed$Stream;", Cond.classLink RX6 19 RX3, Cond.instantiable RX3 6, Cond.initialized RX3, Cond.fieldLink RX6 22 "ReservoirReed" "mergedPriorities" "LReservoirReed$Priorities;", Cond.classLink RX6 26 RX1, Cond.instantiable RX1 4]
def wsL_law0_r2 : List Cond := [Cond.initialized RX1, Cond.fieldLink RX6 29 "ReservoirReed" "mergedDistinct" "LReservoirReed$Distinct;", Cond.instanceMethod yX5_init, Cond.code yX5_init cX5_init 1 none, Cond.methodLink RX5 1 objectInit, Cond.classLink RX5 7 RX4, Cond.instantiable RX4 4, Cond.initialized RX4, Cond.fieldLink RX5 10 "ReservoirReed$Stream" "reservoir" "LReservoirReed$Reservoir;", Cond.classLink RX5 16 RX2, Cond.instantiable RX2 2, Cond.initialized RX2, Cond.fieldLink RX5 19 "ReservoirReed$Stream" "group0" "LReservoirReed$Group;", Cond.fieldLink RX5 23 "ReservoirReed$Stream" "group1" "LReservoirReed$Group;", Cond.fieldLink RX5 26 "ReservoirReed$Stream" "group2" "LReservoirReed$Group;", Cond.fieldLink RX5 29 "ReservoirReed$Stream" "group3" "LReservoirReed$Group;", Cond.classLink RX5 32 RX3, Cond.fieldLink RX5 35 "ReservoirReed$Stream" "priorities" "LReservoirReed$Priorities;", Cond.classLink RX5 39 RX1, Cond.fieldLink RX5 42 "ReservoirReed$Stream" "distinct" "LReservoirReed$Distinct;", Cond.classLink RX5 46 RX0, Cond.instantiable RX0 6, Cond.initialized RX0, Cond.fieldLink RX5 49 "ReservoirReed$Stream" "chain" "LReservoirReed$Chain;"]
def wsL_law0_r3 : List Cond := [Cond.instanceMethod yX4_init, Cond.code yX4_init cX4_init 1 none, Cond.methodLink RX4 3 objectInit, Cond.arrayClass .int, Cond.fieldLink RX4 9 "ReservoirReed$Reservoir" "items" "[I", Cond.fieldLink RX4 15 "ReservoirReed$Reservoir" "positions" "[I", Cond.instanceMethod yX2_init, Cond.code yX2_init cX2_init 1 none, Cond.methodLink RX2 1 objectInit, Cond.classLink RX2 7 RX4, Cond.fieldLink RX2 10 "ReservoirReed$Group" "reservoir" "LReservoirReed$Reservoir;", Cond.instanceMethod yX3_init, Cond.code yX3_init cX3_init 1 none, Cond.methodLink RX3 3 objectInit, Cond.fieldLink RX3 9 "ReservoirReed$Priorities" "items" "[I", Cond.fieldLink RX3 15 "ReservoirReed$Priorities" "weights" "[I", Cond.fieldLink RX3 18 "ReservoirReed$Priorities" "groups" "[I", Cond.fieldLink RX3 21 "ReservoirReed$Priorities" "dice" "[I", Cond.instanceMethod yX1_init, Cond.code yX1_init cX1_init 1 none, Cond.methodLink RX1 3 objectInit, Cond.fieldLink RX1 9 "ReservoirReed$Distinct" "items" "[I", Cond.fieldLink RX1 15 "ReservoirReed$Distinct" "times" "[I", Cond.instanceMethod yX0_init]
def wsL_law0_r4 : List Cond := [Cond.code yX0_init cX0_init 1 none, Cond.methodLink RX0 3 objectInit, Cond.fieldLink RX0 9 "ReservoirReed$Chain" "items" "[I", Cond.fieldLink RX0 15 "ReservoirReed$Chain" "positions" "[I", Cond.methodLink RX6 33 yX6_startAgain, Cond.instanceMethod yX6_startAgain, Cond.selects RX6 yX6_startAgain yX6_startAgain, Cond.code yX6_startAgain cX6_startAgain 3 none, Cond.fieldLink RX6 155 "ReservoirReed" "size" "I", Cond.methodLink RX6 158 yX5_startAgain, Cond.instanceMethod yX5_startAgain, Cond.selects RX5 yX5_startAgain yX5_startAgain, Cond.code yX5_startAgain cX5_startAgain 3 none, Cond.fieldLink RX5 53 "ReservoirReed$Stream" "size" "I", Cond.fieldLink RX5 57 "ReservoirReed$Stream" "window" "I", Cond.methodLink RX5 60 yX5_makeEmpty, Cond.instanceMethod yX5_makeEmpty, Cond.selects RX5 yX5_makeEmpty yX5_makeEmpty, Cond.code yX5_makeEmpty cX5_makeEmpty 1 none, Cond.fieldLink RX5 63 "ReservoirReed$Stream" "taken" "I", Cond.methodLink RX5 66 yX4_startAgain, Cond.instanceMethod yX4_startAgain, Cond.selects RX4 yX4_startAgain yX4_startAgain, Cond.code yX4_startAgain cX4_startAgain 2 none]
def wsL_law0_r5 : List Cond := [Cond.fieldLink RX4 18 "ReservoirReed$Reservoir" "size" "I", Cond.fieldLink RX4 22 "ReservoirReed$Reservoir" "given" "I", Cond.methodLink RX5 70 yX2_startAgain, Cond.instanceMethod yX2_startAgain, Cond.selects RX2 yX2_startAgain yX2_startAgain, Cond.code yX2_startAgain cX2_startAgain 2 none, Cond.fieldLink RX2 16 "ReservoirReed$Group" "weight" "I", Cond.methodLink RX2 20 yX4_startAgain, Cond.methodLink RX5 71 yX3_startAgain, Cond.instanceMethod yX3_startAgain, Cond.selects RX3 yX3_startAgain yX3_startAgain, Cond.code yX3_startAgain cX3_startAgain 2 none, Cond.fieldLink RX3 24 "ReservoirReed$Priorities" "size" "I", Cond.fieldLink RX3 28 "ReservoirReed$Priorities" "held" "I", Cond.methodLink RX5 72 yX1_startAgain, Cond.instanceMethod yX1_startAgain, Cond.selects RX1 yX1_startAgain yX1_startAgain, Cond.code yX1_startAgain cX1_startAgain 2 none, Cond.fieldLink RX1 18 "ReservoirReed$Distinct" "size" "I", Cond.fieldLink RX1 22 "ReservoirReed$Distinct" "held" "I", Cond.methodLink RX5 73 yX0_startAgain, Cond.instanceMethod yX0_startAgain, Cond.selects RX0 yX0_startAgain yX0_startAgain, Cond.code yX0_startAgain cX0_startAgain 2 none]
def wsL_law0_r6 : List Cond := [Cond.fieldLink RX0 18 "ReservoirReed$Chain" "window" "I", Cond.fieldLink RX0 22 "ReservoirReed$Chain" "start" "I", Cond.fieldLink RX0 25 "ReservoirReed$Chain" "end" "I", Cond.fieldLink RX0 28 "ReservoirReed$Chain" "awaited" "I", Cond.methodLink RL 97 yX7_init, Cond.instanceMethod yX7_init, Cond.code yX7_init cX7_init 1 none, Cond.methodLink RX7 1 objectInit, Cond.fieldLink RX7 7 "ReservoirReedModel" "size" "I", Cond.fieldLink RX7 13 "ReservoirReedModel" "window" "I", Cond.fieldLink RX7 16 "ReservoirReedModel" "many" "[I", Cond.fieldLink RX7 20 "ReservoirReedModel" "items" "[I", Cond.fieldLink RX7 23 "ReservoirReedModel" "weights" "[I", Cond.fieldLink RX7 26 "ReservoirReedModel" "groups" "[I", Cond.fieldLink RX7 29 "ReservoirReedModel" "firsts" "[I", Cond.fieldLink RX7 32 "ReservoirReedModel" "seconds" "[I", Cond.arrayClass .boolean, Cond.fieldLink RX7 35 "ReservoirReedModel" "isNew" "[Z", Cond.fieldLink RX7 39 "ReservoirReedModel" "chain" "[I", Cond.methodLink RL 98 yL_begin, Cond.static yL_begin, Cond.initialized RL, Cond.codeWith yL_begin cL_begin 4 (some .int) [(0, 6, 9, 13)], Cond.classLink RL 13 "java/lang/IllegalArgumentException"]
def wsL_law0_r7 : List Cond := [Cond.methodLink RL 7 yX6_begin, Cond.instanceMethod yX6_begin, Cond.selects RX6 yX6_begin yX6_begin, Cond.code yX6_begin cX6_begin 3 none, Cond.methodLink RX6 37 yX6_checkArgument, Cond.static yX6_checkArgument, Cond.code yX6_checkArgument cX6_checkArgument 3 none, Cond.classLink RX6 176 "java/lang/IllegalArgumentException", Cond.initialized "java/lang/IllegalArgumentException", Cond.methodLink RL 103 yX7_begin, Cond.instanceMethod yX7_begin, Cond.selects RX7 yX7_begin yX7_begin, Cond.code yX7_begin cX7_begin 3 none, Cond.methodLink RX7 45 yX7_in, Cond.static yX7_in, Cond.code yX7_in cX7_in 3 (some .boolean), Cond.methodLink RX7 49 yX7_refused, Cond.instanceMethod yX7_refused, Cond.selects RX7 yX7_refused yX7_refused, Cond.code yX7_refused cX7_refused 2 (some .boolean), Cond.fieldLink RX7 42 "ReservoirReedModel" "refusal" "I", Cond.methodLink RL 104 yX7_thrown, Cond.instanceMethod yX7_thrown, Cond.selects RX7 yX7_thrown yX7_thrown]
def wsL_law0_r8 : List Cond := [Cond.code yX7_thrown cX7_thrown 1 (some .int), Cond.methodLink RL 108 yL_offer, Cond.static yL_offer, Cond.codeWith yL_offer cL_offer 9 (some .int) [(0, 18, 21, 13), (0, 18, 25, 19)], Cond.classLink RL 19 "java/lang/IllegalStateException", Cond.methodLink RL 15 yX6_offer, Cond.instanceMethod yX6_offer, Cond.selects RX6 yX6_offer yX6_offer, Cond.code yX6_offer cX6_offer 8 (some .int), Cond.constant RX6 41 (1000000), Cond.constant RX6 44 (2147483647), Cond.methodLink RX6 45 yX6_streamOf, Cond.instanceMethod yX6_streamOf, Cond.selects RX6 yX6_streamOf yX6_streamOf, Cond.code yX6_streamOf cX6_streamOf 2 (some (.object "ReservoirReed$Stream")), Cond.methodLink RX6 53 yX6_checkState, Cond.static yX6_checkState, Cond.code yX6_checkState cX6_checkState 1 none, Cond.classLink RX6 183 "java/lang/IllegalStateException", Cond.initialized "java/lang/IllegalStateException", Cond.methodLink RX6 57 yX5_take, Cond.instanceMethod yX5_take, Cond.selects RX5 yX5_take yX5_take, Cond.code yX5_take cX5_take 6 none]
def wsL_law0_r9 : List Cond := [Cond.methodLink RX5 74 yX4_give, Cond.instanceMethod yX4_give, Cond.selects RX4 yX4_give yX4_give, Cond.code yX4_give cX4_give 5 none, Cond.static yX6_remainder, Cond.code yX6_remainder cX6_remainder 2 (some .int), Cond.static yX6_put, Cond.code yX6_put cX6_put 3 none, Cond.methodLink RX5 78 yX5_groupOf, Cond.instanceMethod yX5_groupOf, Cond.selects RX5 yX5_groupOf yX5_groupOf, Cond.code yX5_groupOf cX5_groupOf 2 (some (.object "ReservoirReed$Group")), Cond.methodLink RX5 82 yX2_give, Cond.instanceMethod yX2_give, Cond.selects RX2 yX2_give yX2_give, Cond.code yX2_give cX2_give 5 none, Cond.methodLink RX2 24 yX4_give, Cond.methodLink RX5 85 yX3_add, Cond.instanceMethod yX3_add, Cond.selects RX3 yX3_add yX3_add, Cond.code yX3_add cX3_add 6 none, Cond.methodLink RX3 43 Lib.Math.min.name, Cond.static Lib.Math.min.name, Cond.initialized "java/lang/Math"]
def wsL_law0_r10 : List Cond := [Cond.code Lib.Math.min.name Lib.Math.min.code 2 (some .int), Cond.methodLink RX3 39 yX3_placeFor, Cond.instanceMethod yX3_placeFor, Cond.selects RX3 yX3_placeFor yX3_placeFor, Cond.code yX3_placeFor cX3_placeFor 4 (some .int), Cond.methodLink RX3 52 yX3_isGreater, Cond.instanceMethod yX3_isGreater, Cond.selects RX3 yX3_isGreater yX3_isGreater, Cond.code yX3_isGreater cX3_isGreater 4 (some .boolean), Cond.static yX6_at, Cond.code yX6_at cX6_at 2 (some .int), Cond.static yX6_insert, Cond.code yX6_insert cX6_insert 5 none, Cond.methodLink RX6 90 yX6_at, Cond.methodLink RX6 193 yX6_put, Cond.methodLink RX5 88 yX1_add, Cond.instanceMethod yX1_add, Cond.selects RX1 yX1_add yX1_add, Cond.code yX1_add cX1_add 4 none, Cond.methodLink RX1 41 Lib.Math.min.name, Cond.methodLink RX1 33 yX1_placeFor, Cond.instanceMethod yX1_placeFor, Cond.selects RX1 yX1_placeFor yX1_placeFor, Cond.code yX1_placeFor cX1_placeFor 5 (some .int)]
def wsL_law0_r11 : List Cond := [Cond.methodLink RX1 51 yX1_hashOf, Cond.static yX1_hashOf, Cond.code yX1_hashOf cX1_hashOf 1 (some .long), Cond.constantLong RX1 55 (2654435761), Cond.constantLong RX1 57 (4294967296), Cond.methodLink RX5 91 yX0_give, Cond.instanceMethod yX0_give, Cond.selects RX0 yX0_give yX0_give, Cond.code yX0_give cX0_give 5 none, Cond.methodLink RX0 31 Lib.Math.min.name, Cond.methodLink RX0 40 yX0_append, Cond.instanceMethod yX0_append, Cond.selects RX0 yX0_append yX0_append, Cond.code yX0_append cX0_append 4 none, Cond.methodLink RL 111 yX7_offer, Cond.instanceMethod yX7_offer, Cond.selects RX7 yX7_offer yX7_offer, Cond.code yX7_offer cX7_offer 9 (some .int), Cond.constant RX7 53 (1000000), Cond.methodLink RL 112 yL_clear, Cond.static yL_clear, Cond.codeWith yL_clear cL_clear 4 (some .int) [(0, 9, 12, 13)], Cond.methodLink RL 21 yX6_clear, Cond.instanceMethod yX6_clear]
def wsL_law0_r12 : List Cond := [Cond.selects RX6 yX6_clear yX6_clear, Cond.code yX6_clear cX6_clear 4 (some .int), Cond.methodLink RX6 61 yX5_makeEmpty, Cond.methodLink RL 115 yX7_clear, Cond.instanceMethod yX7_clear, Cond.selects RX7 yX7_clear yX7_clear, Cond.code yX7_clear cX7_clear 3 (some .int), Cond.methodLink RX7 54 yX7_noStream, Cond.instanceMethod yX7_noStream, Cond.selects RX7 yX7_noStream yX7_noStream, Cond.code yX7_noStream cX7_noStream 3 (some .boolean), Cond.methodLink RL 116 yL_offers, Cond.static yL_offers, Cond.codeWith yL_offers cL_offers 4 (some .int) [(0, 9, 12, 13)], Cond.methodLink RL 25 yX6_offers, Cond.instanceMethod yX6_offers, Cond.selects RX6 yX6_offers yX6_offers, Cond.code yX6_offers cX6_offers 2 (some .int), Cond.methodLink RL 118 yX7_offers, Cond.instanceMethod yX7_offers, Cond.selects RX7 yX7_offers yX7_offers, Cond.code yX7_offers cX7_offers 2 (some .int), Cond.methodLink RL 119 yL_exactWeight, Cond.static yL_exactWeight]
def wsL_law0_r13 : List Cond := [Cond.codeWith yL_exactWeight cL_exactWeight 5 (some .int) [(0, 10, 13, 13)], Cond.methodLink RL 28 yX6_exactWeight, Cond.instanceMethod yX6_exactWeight, Cond.selects RX6 yX6_exactWeight yX6_exactWeight, Cond.code yX6_exactWeight cX6_exactWeight 3 (some .int), Cond.methodLink RX6 64 yX5_groupOf, Cond.methodLink RL 122 yX7_exactWeight, Cond.instanceMethod yX7_exactWeight, Cond.selects RX7 yX7_exactWeight yX7_exactWeight, Cond.code yX7_exactWeight cX7_exactWeight 5 (some .int), Cond.methodLink RX7 58 yX7_noGroup, Cond.instanceMethod yX7_noGroup, Cond.selects RX7 yX7_noGroup yX7_noGroup, Cond.code yX7_noGroup cX7_noGroup 4 (some .boolean), Cond.methodLink RX7 61 yX7_isOf, Cond.instanceMethod yX7_isOf, Cond.selects RX7 yX7_isOf yX7_isOf, Cond.code yX7_isOf cX7_isOf 4 (some .boolean), Cond.methodLink RL 123 yL_reservoirSize, Cond.static yL_reservoirSize, Cond.codeWith yL_reservoirSize cL_reservoirSize 4 (some .int) [(0, 9, 12, 13)], Cond.methodLink RL 32 yX6_reservoirSize, Cond.instanceMethod yX6_reservoirSize, Cond.selects RX6 yX6_reservoirSize yX6_reservoirSize]
def wsL_law0_r14 : List Cond := [Cond.code yX6_reservoirSize cX6_reservoirSize 2 (some .int), Cond.methodLink RX6 77 yX4_filled, Cond.instanceMethod yX4_filled, Cond.selects RX4 yX4_filled yX4_filled, Cond.code yX4_filled cX4_filled 1 (some .int), Cond.methodLink RX4 33 Lib.Math.min.name, Cond.methodLink RL 125 yX7_reservoirSize, Cond.instanceMethod yX7_reservoirSize, Cond.selects RX7 yX7_reservoirSize yX7_reservoirSize, Cond.code yX7_reservoirSize cX7_reservoirSize 2 (some .int), Cond.methodLink RL 126 yL_reservoirItem, Cond.static yL_reservoirItem, Cond.codeWith yL_reservoirItem cL_reservoirItem 5 (some .int) [(0, 10, 13, 13), (0, 10, 17, 38)], Cond.classLink RL 38 "java/lang/IndexOutOfBoundsException", Cond.methodLink RL 35 yX6_reservoirItem, Cond.instanceMethod yX6_reservoirItem, Cond.selects RX6 yX6_reservoirItem yX6_reservoirItem, Cond.code yX6_reservoirItem cX6_reservoirItem 4 (some .int), Cond.methodLink RX6 83 yX6_checkPlace, Cond.static yX6_checkPlace, Cond.code yX6_checkPlace cX6_checkPlace 2 none, Cond.classLink RX6 188 "java/lang/IndexOutOfBoundsException", Cond.initialized "java/lang/IndexOutOfBoundsException", Cond.methodLink RL 128 yX7_reservoirItem]
def wsL_law0_r15 : List Cond := [Cond.instanceMethod yX7_reservoirItem, Cond.selects RX7 yX7_reservoirItem yX7_reservoirItem, Cond.code yX7_reservoirItem cX7_reservoirItem 4 (some .int), Cond.methodLink RX7 68 yX7_slotOf, Cond.instanceMethod yX7_slotOf, Cond.selects RX7 yX7_slotOf yX7_slotOf, Cond.code yX7_slotOf cX7_slotOf 6 (some .int), Cond.methodLink RX7 64 yX7_inSlot, Cond.instanceMethod yX7_inSlot, Cond.selects RX7 yX7_inSlot yX7_inSlot, Cond.code yX7_inSlot cX7_inSlot 8 (some .int), Cond.methodLink RL 129 yL_reservoirPosition, Cond.static yL_reservoirPosition, Cond.codeWith yL_reservoirPosition cL_reservoirPosition 5 (some .int) [(0, 10, 13, 13), (0, 10, 17, 38)], Cond.methodLink RL 40 yX6_reservoirPosition, Cond.instanceMethod yX6_reservoirPosition, Cond.selects RX6 yX6_reservoirPosition yX6_reservoirPosition, Cond.code yX6_reservoirPosition cX6_reservoirPosition 4 (some .int), Cond.methodLink RL 131 yX7_reservoirPosition, Cond.instanceMethod yX7_reservoirPosition, Cond.selects RX7 yX7_reservoirPosition yX7_reservoirPosition, Cond.code yX7_reservoirPosition cX7_reservoirPosition 4 (some .int), Cond.methodLink RL 132 yL_groupOffers, Cond.static yL_groupOffers]
def wsL_law0_r16 : List Cond := [Cond.codeWith yL_groupOffers cL_groupOffers 5 (some .int) [(0, 10, 13, 13)], Cond.methodLink RL 43 yX6_groupOffers, Cond.instanceMethod yX6_groupOffers, Cond.selects RX6 yX6_groupOffers yX6_groupOffers, Cond.code yX6_groupOffers cX6_groupOffers 3 (some .int), Cond.methodLink RL 134 yX7_groupOffers, Cond.instanceMethod yX7_groupOffers, Cond.selects RX7 yX7_groupOffers yX7_groupOffers, Cond.code yX7_groupOffers cX7_groupOffers 5 (some .int), Cond.methodLink RL 135 yL_groupItem, Cond.static yL_groupItem, Cond.codeWith yL_groupItem cL_groupItem 6 (some .int) [(0, 12, 15, 13), (0, 12, 19, 38)], Cond.methodLink RL 46 yX6_groupItem, Cond.instanceMethod yX6_groupItem, Cond.selects RX6 yX6_groupItem yX6_groupItem, Cond.code yX6_groupItem cX6_groupItem 5 (some .int), Cond.methodLink RL 138 yX7_groupItem, Cond.instanceMethod yX7_groupItem, Cond.selects RX7 yX7_groupItem yX7_groupItem, Cond.code yX7_groupItem cX7_groupItem 5 (some .int), Cond.methodLink RL 139 yL_prioritySize, Cond.static yL_prioritySize, Cond.codeWith yL_prioritySize cL_prioritySize 4 (some .int) [(0, 9, 12, 13)], Cond.methodLink RL 50 yX6_prioritySize]
def wsL_law0_r17 : List Cond := [Cond.instanceMethod yX6_prioritySize, Cond.selects RX6 yX6_prioritySize yX6_prioritySize, Cond.code yX6_prioritySize cX6_prioritySize 2 (some .int), Cond.methodLink RX6 101 yX6_prioritiesOf, Cond.instanceMethod yX6_prioritiesOf, Cond.selects RX6 yX6_prioritiesOf yX6_prioritiesOf, Cond.code yX6_prioritiesOf cX6_prioritiesOf 2 (some (.object "ReservoirReed$Priorities")), Cond.methodLink RX6 162 yX3_startAgain, Cond.methodLink RX6 165 yX3_addAll, Cond.instanceMethod yX3_addAll, Cond.selects RX3 yX3_addAll yX3_addAll, Cond.code yX3_addAll cX3_addAll 4 none, Cond.methodLink RX3 35 yX3_add, Cond.methodLink RX6 105 yX3_sampled, Cond.instanceMethod yX3_sampled, Cond.selects RX3 yX3_sampled yX3_sampled, Cond.code yX3_sampled cX3_sampled 1 (some .int), Cond.methodLink RL 141 yX7_prioritySize, Cond.instanceMethod yX7_prioritySize, Cond.selects RX7 yX7_prioritySize yX7_prioritySize, Cond.code yX7_prioritySize cX7_prioritySize 2 (some .int), Cond.methodLink RX7 84 yX7_sampled, Cond.instanceMethod yX7_sampled, Cond.selects RX7 yX7_sampled yX7_sampled]
def wsL_law0_r18 : List Cond := [Cond.code yX7_sampled cX7_sampled 2 (some .int), Cond.methodLink RX7 74 yX7_all, Cond.instanceMethod yX7_all, Cond.selects RX7 yX7_all yX7_all, Cond.code yX7_all cX7_all 2 (some .int), Cond.methodLink RL 142 yL_priorityItem, Cond.static yL_priorityItem, Cond.codeWith yL_priorityItem cL_priorityItem 5 (some .int) [(0, 10, 13, 13), (0, 10, 17, 38)], Cond.methodLink RL 53 yX6_priorityItem, Cond.instanceMethod yX6_priorityItem, Cond.selects RX6 yX6_priorityItem yX6_priorityItem, Cond.code yX6_priorityItem cX6_priorityItem 4 (some .int), Cond.methodLink RL 144 yX7_priorityItem, Cond.instanceMethod yX7_priorityItem, Cond.selects RX7 yX7_priorityItem yX7_priorityItem, Cond.code yX7_priorityItem cX7_priorityItem 3 (some .int), Cond.methodLink RX7 87 yX7_noPlace, Cond.instanceMethod yX7_noPlace, Cond.selects RX7 yX7_noPlace yX7_noPlace, Cond.code yX7_noPlace cX7_noPlace 3 (some .boolean), Cond.methodLink RX7 78 yX7_ranked, Cond.instanceMethod yX7_ranked, Cond.selects RX7 yX7_ranked yX7_ranked, Cond.code yX7_ranked cX7_ranked 7 (some .int)]
def wsL_law0_r19 : List Cond := [Cond.methodLink RX7 71 yX7_isAhead, Cond.instanceMethod yX7_isAhead, Cond.selects RX7 yX7_isAhead yX7_isAhead, Cond.code yX7_isAhead cX7_isAhead 7 (some .boolean), Cond.methodLink RL 145 yL_estimatedWeight, Cond.static yL_estimatedWeight, Cond.codeWith yL_estimatedWeight cL_estimatedWeight 5 (some .int) [(0, 9, 12, 13), (0, 9, 16, 38)], Cond.methodLink RL 56 yX6_estimatedWeight, Cond.instanceMethod yX6_estimatedWeight, Cond.selects RX6 yX6_estimatedWeight yX6_estimatedWeight, Cond.code yX6_estimatedWeight cX6_estimatedWeight 4 (some .long), Cond.methodLink RX6 109 yX3_estimateAt, Cond.instanceMethod yX3_estimateAt, Cond.selects RX3 yX3_estimateAt yX3_estimateAt, Cond.code yX3_estimateAt cX3_estimateAt 2 (some .long), Cond.methodLink RX3 64 Lib.MathLoose.max_long.x, Cond.static Lib.MathLoose.max_long.x, Cond.code Lib.MathLoose.max_long.x Lib.MathLoose.max_long.code 4 (some .long), Cond.methodLink RX3 60 yX3_bound, Cond.instanceMethod yX3_bound, Cond.selects RX3 yX3_bound yX3_bound, Cond.code yX3_bound cX3_bound 3 (some .long), Cond.static yX6_quotient, Cond.code yX6_quotient cX6_quotient 4 (some .long)]
def wsL_law0_r20 : List Cond := [Cond.methodLink RL 147 yX7_estimatedWeight, Cond.instanceMethod yX7_estimatedWeight, Cond.selects RX7 yX7_estimatedWeight yX7_estimatedWeight, Cond.code yX7_estimatedWeight cX7_estimatedWeight 6 (some .long), Cond.methodLink RX7 90 yX7_thresholdOf, Cond.instanceMethod yX7_thresholdOf, Cond.selects RX7 yX7_thresholdOf yX7_thresholdOf, Cond.code yX7_thresholdOf cX7_thresholdOf 3 (some .long), Cond.constantLong RX7 82 (2147483648), Cond.methodLink RL 148 yL_threshold, Cond.static yL_threshold, Cond.codeWith yL_threshold cL_threshold 4 (some .int) [(0, 8, 11, 13)], Cond.methodLink RL 60 yX6_threshold, Cond.instanceMethod yX6_threshold, Cond.selects RX6 yX6_threshold yX6_threshold, Cond.code yX6_threshold cX6_threshold 2 (some .long), Cond.methodLink RX6 113 yX3_bound, Cond.methodLink RL 150 yX7_threshold, Cond.instanceMethod yX7_threshold, Cond.selects RX7 yX7_threshold yX7_threshold, Cond.code yX7_threshold cX7_threshold 2 (some .long), Cond.methodLink RL 151 yL_estimate, Cond.static yL_estimate, Cond.codeWith yL_estimate cL_estimate 5 (some .int) [(0, 9, 12, 13)]]
def wsL_law0_r21 : List Cond := [Cond.methodLink RL 64 yX6_estimate, Cond.instanceMethod yX6_estimate, Cond.selects RX6 yX6_estimate yX6_estimate, Cond.code yX6_estimate cX6_estimate 3 (some .long), Cond.methodLink RX6 117 yX3_estimatedSum, Cond.instanceMethod yX3_estimatedSum, Cond.selects RX3 yX3_estimatedSum yX3_estimatedSum, Cond.code yX3_estimatedSum cX3_estimatedSum 6 (some .long), Cond.methodLink RX3 67 yX3_sampled, Cond.methodLink RX3 71 yX3_estimateAt, Cond.methodLink RL 153 yX7_estimate, Cond.instanceMethod yX7_estimate, Cond.selects RX7 yX7_estimate yX7_estimate, Cond.code yX7_estimate cX7_estimate 11 (some .long), Cond.methodLink RL 154 yL_sampledWeight, Cond.static yL_sampledWeight, Cond.codeWith yL_sampledWeight cL_sampledWeight 5 (some .int) [(0, 10, 13, 13)], Cond.methodLink RL 67 yX6_sampledWeight, Cond.instanceMethod yX6_sampledWeight, Cond.selects RX6 yX6_sampledWeight yX6_sampledWeight, Cond.code yX6_sampledWeight cX6_sampledWeight 3 (some .int), Cond.methodLink RX6 120 yX3_weightSum, Cond.instanceMethod yX3_weightSum, Cond.selects RX3 yX3_weightSum yX3_weightSum]
def wsL_law0_r22 : List Cond := [Cond.code yX3_weightSum cX3_weightSum 5 (some .int), Cond.methodLink RL 156 yX7_sampledWeight, Cond.instanceMethod yX7_sampledWeight, Cond.selects RX7 yX7_sampledWeight yX7_sampledWeight, Cond.code yX7_sampledWeight cX7_sampledWeight 6 (some .int), Cond.methodLink RL 157 yL_distinctSize, Cond.static yL_distinctSize, Cond.codeWith yL_distinctSize cL_distinctSize 4 (some .int) [(0, 9, 12, 13)], Cond.methodLink RL 70 yX6_distinctSize, Cond.instanceMethod yX6_distinctSize, Cond.selects RX6 yX6_distinctSize yX6_distinctSize, Cond.code yX6_distinctSize cX6_distinctSize 2 (some .int), Cond.methodLink RX6 124 yX6_distinctOf, Cond.instanceMethod yX6_distinctOf, Cond.selects RX6 yX6_distinctOf yX6_distinctOf, Cond.code yX6_distinctOf cX6_distinctOf 2 (some (.object "ReservoirReed$Distinct")), Cond.methodLink RX6 172 yX1_startAgain, Cond.methodLink RX6 173 yX1_addAll, Cond.instanceMethod yX1_addAll, Cond.selects RX1 yX1_addAll yX1_addAll, Cond.code yX1_addAll cX1_addAll 4 none, Cond.methodLink RX1 29 yX1_add, Cond.methodLink RL 159 yX7_distinctSize, Cond.instanceMethod yX7_distinctSize]
def wsL_law0_r23 : List Cond := [Cond.selects RX7 yX7_distinctSize yX7_distinctSize, Cond.code yX7_distinctSize cX7_distinctSize 2 (some .int), Cond.methodLink RX7 104 yX7_distinctIn, Cond.instanceMethod yX7_distinctIn, Cond.selects RX7 yX7_distinctIn yX7_distinctIn, Cond.code yX7_distinctIn cX7_distinctIn 3 (some .int), Cond.methodLink RX7 98 yX7_distinct, Cond.instanceMethod yX7_distinct, Cond.selects RX7 yX7_distinct yX7_distinct, Cond.code yX7_distinct cX7_distinct 5 (some .int), Cond.methodLink RL 160 yL_distinctItem, Cond.static yL_distinctItem, Cond.codeWith yL_distinctItem cL_distinctItem 5 (some .int) [(0, 10, 13, 13), (0, 10, 17, 38)], Cond.methodLink RL 73 yX6_distinctItem, Cond.instanceMethod yX6_distinctItem, Cond.selects RX6 yX6_distinctItem yX6_distinctItem, Cond.code yX6_distinctItem cX6_distinctItem 4 (some .int), Cond.methodLink RL 162 yX7_distinctItem, Cond.instanceMethod yX7_distinctItem, Cond.selects RX7 yX7_distinctItem yX7_distinctItem, Cond.code yX7_distinctItem cX7_distinctItem 4 (some .int), Cond.methodLink RX7 110 yX7_distinctAt, Cond.instanceMethod yX7_distinctAt, Cond.selects RX7 yX7_distinctAt yX7_distinctAt]
def wsL_law0_r24 : List Cond := [Cond.code yX7_distinctAt cX7_distinctAt 5 (some .int), Cond.methodLink RX7 107 yX7_hashed, Cond.instanceMethod yX7_hashed, Cond.selects RX7 yX7_hashed yX7_hashed, Cond.code yX7_hashed cX7_hashed 6 (some .int), Cond.methodLink RX7 101 yX7_hash, Cond.static yX7_hash, Cond.code yX7_hash cX7_hash 1 (some .long), Cond.constantLong RX7 94 (2654435761), Cond.constantLong RX7 96 (4294967296), Cond.methodLink RL 163 yL_distinctOffers, Cond.static yL_distinctOffers, Cond.codeWith yL_distinctOffers cL_distinctOffers 5 (some .int) [(0, 10, 13, 13), (0, 10, 17, 38)], Cond.methodLink RL 76 yX6_distinctOffers, Cond.instanceMethod yX6_distinctOffers, Cond.selects RX6 yX6_distinctOffers yX6_distinctOffers, Cond.code yX6_distinctOffers cX6_distinctOffers 4 (some .int), Cond.methodLink RL 165 yX7_distinctOffers, Cond.instanceMethod yX7_distinctOffers, Cond.selects RX7 yX7_distinctOffers yX7_distinctOffers, Cond.code yX7_distinctOffers cX7_distinctOffers 6 (some .int), Cond.methodLink RL 166 yL_distinctEstimate, Cond.static yL_distinctEstimate, Cond.codeWith yL_distinctEstimate cL_distinctEstimate 4 (some .int) [(0, 8, 11, 13)]]
def wsL_law0_r25 : List Cond := [Cond.methodLink RL 79 yX6_distinctEstimate, Cond.instanceMethod yX6_distinctEstimate, Cond.selects RX6 yX6_distinctEstimate yX6_distinctEstimate, Cond.code yX6_distinctEstimate cX6_distinctEstimate 2 (some .long), Cond.methodLink RX6 135 yX1_estimatedCount, Cond.instanceMethod yX1_estimatedCount, Cond.selects RX1 yX1_estimatedCount yX1_estimatedCount, Cond.code yX1_estimatedCount cX1_estimatedCount 1 (some .long), Cond.methodLink RL 168 yX7_distinctEstimate, Cond.instanceMethod yX7_distinctEstimate, Cond.selects RX7 yX7_distinctEstimate yX7_distinctEstimate, Cond.code yX7_distinctEstimate cX7_distinctEstimate 3 (some .long), Cond.methodLink RL 169 yL_windowItem, Cond.static yL_windowItem, Cond.codeWith yL_windowItem cL_windowItem 4 (some .int) [(0, 9, 12, 13), (0, 9, 15, 19)], Cond.methodLink RL 82 yX6_windowItem, Cond.instanceMethod yX6_windowItem, Cond.selects RX6 yX6_windowItem yX6_windowItem, Cond.code yX6_windowItem cX6_windowItem 3 (some .int), Cond.methodLink RL 171 yX7_windowItem, Cond.instanceMethod yX7_windowItem, Cond.selects RX7 yX7_windowItem yX7_windowItem, Cond.code yX7_windowItem cX7_windowItem 2 (some .int), Cond.methodLink RX7 123 yX7_noWindow]
def wsL_law0_r26 : List Cond := [Cond.instanceMethod yX7_noWindow, Cond.selects RX7 yX7_noWindow yX7_noWindow, Cond.code yX7_noWindow cX7_noWindow 2 (some .boolean), Cond.methodLink RX7 119 yX7_runChain, Cond.instanceMethod yX7_runChain, Cond.selects RX7 yX7_runChain yX7_runChain, Cond.code yX7_runChain cX7_runChain 6 none, Cond.fieldLink RX7 113 "ReservoirReedModel" "chained" "I", Cond.fieldLink RX7 116 "ReservoirReedModel" "next" "I", Cond.methodLink RL 172 yL_windowPosition, Cond.static yL_windowPosition, Cond.codeWith yL_windowPosition cL_windowPosition 4 (some .int) [(0, 9, 12, 13), (0, 9, 15, 19)], Cond.methodLink RL 85 yX6_windowPosition, Cond.instanceMethod yX6_windowPosition, Cond.selects RX6 yX6_windowPosition yX6_windowPosition, Cond.code yX6_windowPosition cX6_windowPosition 3 (some .int), Cond.methodLink RL 174 yX7_windowPosition, Cond.instanceMethod yX7_windowPosition, Cond.selects RX7 yX7_windowPosition yX7_windowPosition, Cond.code yX7_windowPosition cX7_windowPosition 2 (some .int), Cond.methodLink RL 175 yL_chainLength, Cond.static yL_chainLength, Cond.codeWith yL_chainLength cL_chainLength 4 (some .int) [(0, 9, 12, 13)], Cond.methodLink RL 88 yX6_chainLength]
def wsL_law0_r27 : List Cond := [Cond.instanceMethod yX6_chainLength, Cond.selects RX6 yX6_chainLength yX6_chainLength, Cond.code yX6_chainLength cX6_chainLength 2 (some .int), Cond.methodLink RX6 149 yX0_length, Cond.instanceMethod yX0_length, Cond.selects RX0 yX0_length yX0_length, Cond.code yX0_length cX0_length 1 (some .int), Cond.methodLink RL 177 yX7_chainLength, Cond.instanceMethod yX7_chainLength, Cond.selects RX7 yX7_chainLength yX7_chainLength, Cond.code yX7_chainLength cX7_chainLength 2 (some .int), Cond.methodLink RL 178 yL_successor, Cond.static yL_successor, Cond.codeWith yL_successor cL_successor 4 (some .int) [(0, 9, 12, 13), (0, 9, 15, 19)], Cond.methodLink RL 91 yX6_successor, Cond.instanceMethod yX6_successor, Cond.selects RX6 yX6_successor yX6_successor, Cond.code yX6_successor cX6_successor 3 (some .int), Cond.methodLink RL 180 yX7_successor, Cond.instanceMethod yX7_successor, Cond.selects RX7 yX7_successor yX7_successor, Cond.code yX7_successor cX7_successor 2 (some .int)]
def wsL_law0 : List Cond := (wsL_law0_r1 ++ (wsL_law0_r2 ++ (wsL_law0_r3 ++ (wsL_law0_r4 ++ (wsL_law0_r5 ++ (wsL_law0_r6 ++ (wsL_law0_r7 ++ (wsL_law0_r8 ++ (wsL_law0_r9 ++ (wsL_law0_r10 ++ (wsL_law0_r11 ++ (wsL_law0_r12 ++ (wsL_law0_r13 ++ (wsL_law0_r14 ++ (wsL_law0_r15 ++ (wsL_law0_r16 ++ (wsL_law0_r17 ++ (wsL_law0_r18 ++ (wsL_law0_r19 ++ (wsL_law0_r20 ++ (wsL_law0_r21 ++ (wsL_law0_r22 ++ (wsL_law0_r23 ++ (wsL_law0_r24 ++ (wsL_law0_r25 ++ (wsL_law0_r26 ++ wsL_law0_r27)))))))))))))))))))))))))) ++ wsX60 ++ wsX70 ++ wsX50 ++ wsX30 ++ wsX10 ++ wsX40 ++ wsX20 ++ wsX00 ++ ([] : List Cond)
def wsL_law : List Cond := wsL_law0 ++ (vx_atS RX6 180 "java/lang/IllegalArgumentException" ["java/lang/RuntimeException", "java/lang/Exception"]).filter goodWord ++ (vx_atS RX6 187 "java/lang/IllegalStateException" ["java/lang/RuntimeException", "java/lang/Exception"]).filter goodWord ++ (vx_atS RX6 192 "java/lang/IndexOutOfBoundsException" ["java/lang/RuntimeException", "java/lang/Exception"]).filter goodWord
end
section
set_option maxRecDepth 20000 in
theorem wsL_law0_r1_in : ∀ w ∈ wsL_law0_r1, w ∈ lw_tbl := fun w h => (goodIn_r wsL_law0_r1 [43, 44, 28, 692, 693, 35, 921, 45, 46, 47, 48, 49, 50, 51, 52, 29, 250, 251, 213, 98, 32, 252, 215, 124] (by decide +kernel) (by decide +kernel) w h).1
set_option maxRecDepth 20000 in
theorem wsL_law0_r2_in : ∀ w ∈ wsL_law0_r2, w ∈ lw_tbl := fun w h => (goodIn_r wsL_law0_r2 [33, 253, 54, 55, 56, 57, 58, 30, 174, 80, 81, 31, 176, 177, 178, 179, 97, 180, 123, 182, 145, 146, 34, 184] (by decide +kernel) (by decide +kernel) w h).1
set_option maxRecDepth 20000 in
theorem wsL_law0_r3_in : ∀ w ∈ wsL_law0_r3, w ∈ lw_tbl := fun w h => (goodIn_r wsL_law0_r3 [60, 61, 62, 79, 63, 65, 83, 84, 85, 86, 88, 100, 101, 102, 103, 105, 106, 107, 126, 127, 128, 129, 131, 148] (by decide +kernel) (by decide +kernel) w h).1
set_option maxRecDepth 20000 in
theorem wsL_law0_r4_in : ∀ w ∈ wsL_law0_r4, w ∈ lw_tbl := fun w h => (goodIn_r wsL_law0_r4 [149, 150, 151, 153, 217, 219, 0, 220, 254, 221, 222, 223, 224, 186, 187, 225, 226, 227, 228, 188, 229, 230, 231, 232] (by decide +kernel) (by decide +kernel) w h).1
set_option maxRecDepth 20000 in
theorem wsL_law0_r5_in : ∀ w ∈ wsL_law0_r5, w ∈ lw_tbl := fun w h => (goodIn_r wsL_law0_r5 [67, 68, 233, 234, 235, 236, 90, 237, 238, 239, 240, 241, 108, 109, 242, 243, 244, 245, 133, 134, 246, 247, 248, 249] (by decide +kernel) (by decide +kernel) w h).1
set_option maxRecDepth 20000 in
theorem wsL_law0_r6_in : ∀ w ∈ wsL_law0_r6, w ∈ lw_tbl := fun w h => (goodIn_r wsL_law0_r6 [155, 156, 158, 159, 694, 695, 696, 697, 699, 700, 701, 702, 703, 704, 705, 706, 738, 707, 708, 266, 267, 27, 268, 269] (by decide +kernel) (by decide +kernel) w h).1
set_option maxRecDepth 20000 in
theorem wsL_law0_r7_in : ∀ w ∈ wsL_law0_r7, w ∈ lw_tbl := fun w h => (goodIn_r wsL_law0_r7 [270, 271, 272, 273, 274, 275, 276, 277, 39, 743, 744, 745, 746, 747, 748, 749, 750, 752, 9, 753, 698, 739, 740, 741] (by decide +kernel) (by decide +kernel) w h).1
set_option maxRecDepth 20000 in
theorem wsL_law0_r8_in : ∀ w ∈ wsL_law0_r8, w ∈ lw_tbl := fun w h => (goodIn_r wsL_law0_r8 [742, 345, 346, 347, 348, 349, 350, 351, 352, 353, 354, 355, 357, 2, 358, 359, 360, 361, 362, 40, 378, 379, 380, 381] (by decide +kernel) (by decide +kernel) w h).1
set_option maxRecDepth 20000 in
theorem wsL_law0_r9_in : ∀ w ∈ wsL_law0_r9, w ∈ lw_tbl := fun w h => (goodIn_r wsL_law0_r9 [382, 383, 384, 385, 387, 388, 390, 391, 392, 393, 394, 395, 396, 397, 398, 399, 400, 401, 402, 403, 404, 416, 417, 41] (by decide +kernel) (by decide +kernel) w h).1
set_option maxRecDepth 20000 in
theorem wsL_law0_r10_in : ∀ w ∈ wsL_law0_r10, w ∈ lw_tbl := fun w h => (goodIn_r wsL_law0_r10 [418, 405, 407, 3, 408, 409, 411, 4, 412, 414, 415, 420, 421, 422, 423, 424, 425, 426, 427, 439, 428, 430, 5, 431] (by decide +kernel) (by decide +kernel) w h).1
set_option maxRecDepth 20000 in
theorem wsL_law0_r11_in : ∀ w ∈ wsL_law0_r11, w ∈ lw_tbl := fun w h => (goodIn_r wsL_law0_r11 [432, 433, 434, 435, 436, 441, 442, 443, 444, 445, 447, 449, 6, 450, 754, 755, 756, 757, 758, 453, 454, 455, 456, 457] (by decide +kernel) (by decide +kernel) w h).1
set_option maxRecDepth 20000 in
theorem wsL_law0_r12_in : ∀ w ∈ wsL_law0_r12, w ∈ lw_tbl := fun w h => (goodIn_r wsL_law0_r12 [458, 459, 460, 759, 760, 761, 762, 763, 765, 10, 766, 461, 462, 463, 464, 465, 466, 467, 767, 768, 769, 770, 468, 469] (by decide +kernel) (by decide +kernel) w h).1
set_option maxRecDepth 20000 in
theorem wsL_law0_r13_in : ∀ w ∈ wsL_law0_r13, w ∈ lw_tbl := fun w h => (goodIn_r wsL_law0_r13 [470, 471, 472, 473, 474, 475, 771, 772, 773, 774, 775, 777, 11, 778, 779, 781, 12, 782, 476, 477, 478, 479, 480, 481] (by decide +kernel) (by decide +kernel) w h).1
set_option maxRecDepth 20000 in
theorem wsL_law0_r14_in : ∀ w ∈ wsL_law0_r14, w ∈ lw_tbl := fun w h => (goodIn_r wsL_law0_r14 [482, 483, 484, 485, 486, 487, 783, 784, 785, 786, 488, 489, 490, 491, 492, 493, 494, 495, 496, 497, 498, 499, 42, 787] (by decide +kernel) (by decide +kernel) w h).1
end
section
set_option maxRecDepth 20000 in
theorem wsL_law0_r15_in : ∀ w ∈ wsL_law0_r15, w ∈ lw_tbl := fun w h => (goodIn_r wsL_law0_r15 [788, 789, 790, 791, 793, 13, 794, 795, 797, 14, 798, 515, 516, 517, 518, 519, 520, 521, 799, 800, 801, 802, 522, 523] (by decide +kernel) (by decide +kernel) w h).1
set_option maxRecDepth 20000 in
theorem wsL_law0_r16_in : ∀ w ∈ wsL_law0_r16, w ∈ lw_tbl := fun w h => (goodIn_r wsL_law0_r16 [524, 525, 526, 527, 528, 803, 804, 805, 806, 529, 530, 531, 532, 533, 534, 535, 807, 808, 809, 810, 536, 537, 538, 539] (by decide +kernel) (by decide +kernel) w h).1
set_option maxRecDepth 20000 in
theorem wsL_law0_r17_in : ∀ w ∈ wsL_law0_r17, w ∈ lw_tbl := fun w h => (goodIn_r wsL_law0_r17 [540, 541, 542, 543, 545, 7, 546, 547, 548, 549, 550, 551, 552, 553, 554, 555, 556, 811, 812, 813, 814, 815, 817, 15] (by decide +kernel) (by decide +kernel) w h).1
set_option maxRecDepth 20000 in
theorem wsL_law0_r18_in : ∀ w ∈ wsL_law0_r18, w ∈ lw_tbl := fun w h => (goodIn_r wsL_law0_r18 [818, 819, 821, 16, 822, 557, 558, 559, 560, 561, 562, 563, 823, 824, 825, 826, 827, 829, 17, 830, 831, 833, 18, 834] (by decide +kernel) (by decide +kernel) w h).1
set_option maxRecDepth 20000 in
theorem wsL_law0_r19_in : ∀ w ∈ wsL_law0_r19, w ∈ lw_tbl := fun w h => (goodIn_r wsL_law0_r19 [835, 837, 19, 838, 564, 565, 566, 567, 568, 569, 570, 571, 572, 573, 574, 582, 583, 584, 575, 576, 577, 578, 580, 581] (by decide +kernel) (by decide +kernel) w h).1
set_option maxRecDepth 20000 in
theorem wsL_law0_r20_in : ∀ w ∈ wsL_law0_r20, w ∈ lw_tbl := fun w h => (goodIn_r wsL_law0_r20 [839, 840, 841, 842, 843, 845, 20, 846, 847, 585, 586, 587, 588, 589, 590, 591, 592, 848, 849, 850, 851, 593, 594, 595] (by decide +kernel) (by decide +kernel) w h).1
set_option maxRecDepth 20000 in
theorem wsL_law0_r21_in : ∀ w ∈ wsL_law0_r21, w ∈ lw_tbl := fun w h => (goodIn_r wsL_law0_r21 [596, 597, 598, 599, 600, 601, 602, 603, 604, 605, 852, 853, 854, 855, 606, 607, 608, 609, 610, 611, 612, 613, 614, 615] (by decide +kernel) (by decide +kernel) w h).1
set_option maxRecDepth 20000 in
theorem wsL_law0_r22_in : ∀ w ∈ wsL_law0_r22, w ∈ lw_tbl := fun w h => (goodIn_r wsL_law0_r22 [616, 856, 857, 858, 859, 617, 618, 619, 620, 621, 622, 623, 624, 626, 8, 627, 628, 629, 630, 631, 632, 633, 860, 861] (by decide +kernel) (by decide +kernel) w h).1
set_option maxRecDepth 20000 in
theorem wsL_law0_r23_in : ∀ w ∈ wsL_law0_r23, w ∈ lw_tbl := fun w h => (goodIn_r wsL_law0_r23 [862, 863, 864, 866, 21, 867, 868, 870, 22, 871, 634, 635, 636, 637, 638, 639, 640, 872, 873, 874, 875, 876, 878, 23] (by decide +kernel) (by decide +kernel) w h).1
set_option maxRecDepth 20000 in
theorem wsL_law0_r24_in : ∀ w ∈ wsL_law0_r24, w ∈ lw_tbl := fun w h => (goodIn_r wsL_law0_r24 [879, 880, 882, 24, 883, 884, 885, 886, 887, 888, 641, 642, 643, 644, 645, 646, 647, 889, 890, 891, 892, 648, 649, 650] (by decide +kernel) (by decide +kernel) w h).1
set_option maxRecDepth 20000 in
theorem wsL_law0_r25_in : ∀ w ∈ wsL_law0_r25, w ∈ lw_tbl := fun w h => (goodIn_r wsL_law0_r25 [651, 652, 653, 654, 655, 656, 657, 658, 893, 894, 895, 896, 660, 661, 662, 663, 664, 665, 666, 897, 898, 899, 900, 901] (by decide +kernel) (by decide +kernel) w h).1
set_option maxRecDepth 20000 in
theorem wsL_law0_r26_in : ∀ w ∈ wsL_law0_r26, w ∈ lw_tbl := fun w h => (goodIn_r wsL_law0_r26 [903, 25, 904, 905, 907, 26, 908, 709, 710, 667, 668, 669, 670, 671, 672, 673, 909, 910, 911, 912, 674, 675, 676, 677] (by decide +kernel) (by decide +kernel) w h).1
set_option maxRecDepth 20000 in
theorem wsL_law0_r27_in : ∀ w ∈ wsL_law0_r27, w ∈ lw_tbl := fun w h => (goodIn_r wsL_law0_r27 [678, 679, 680, 681, 682, 683, 684, 913, 914, 915, 916, 685, 686, 687, 688, 689, 690, 691, 917, 918, 919, 920] (by decide +kernel) (by decide +kernel) w h).1
end
section
theorem wsL_law0_rs_in : ∀ w ∈ ((wsL_law0_r1 ++ (wsL_law0_r2 ++ (wsL_law0_r3 ++ (wsL_law0_r4 ++ (wsL_law0_r5 ++ (wsL_law0_r6 ++ (wsL_law0_r7 ++ (wsL_law0_r8 ++ (wsL_law0_r9 ++ (wsL_law0_r10 ++ (wsL_law0_r11 ++ (wsL_law0_r12 ++ (wsL_law0_r13 ++ (wsL_law0_r14 ++ (wsL_law0_r15 ++ (wsL_law0_r16 ++ (wsL_law0_r17 ++ (wsL_law0_r18 ++ (wsL_law0_r19 ++ (wsL_law0_r20 ++ (wsL_law0_r21 ++ (wsL_law0_r22 ++ (wsL_law0_r23 ++ (wsL_law0_r24 ++ (wsL_law0_r25 ++ (wsL_law0_r26 ++ wsL_law0_r27))))))))))))))))))))))))))), w ∈ lw_tbl := fun w h => (List.mem_append.mp h).elim (fun h => wsL_law0_r1_in w h) (fun h => (List.mem_append.mp h).elim (fun h => wsL_law0_r2_in w h) (fun h => (List.mem_append.mp h).elim (fun h => wsL_law0_r3_in w h) (fun h => (List.mem_append.mp h).elim (fun h => wsL_law0_r4_in w h) (fun h => (List.mem_append.mp h).elim (fun h => wsL_law0_r5_in w h) (fun h => (List.mem_append.mp h).elim (fun h => wsL_law0_r6_in w h) (fun h => (List.mem_append.mp h).elim (fun h => wsL_law0_r7_in w h) (fun h => (List.mem_append.mp h).elim (fun h => wsL_law0_r8_in w h) (fun h => (List.mem_append.mp h).elim (fun h => wsL_law0_r9_in w h) (fun h => (List.mem_append.mp h).elim (fun h => wsL_law0_r10_in w h) (fun h => (List.mem_append.mp h).elim (fun h => wsL_law0_r11_in w h) (fun h => (List.mem_append.mp h).elim (fun h => wsL_law0_r12_in w h) (fun h => (List.mem_append.mp h).elim (fun h => wsL_law0_r13_in w h) (fun h => (List.mem_append.mp h).elim (fun h => wsL_law0_r14_in w h) (fun h => (List.mem_append.mp h).elim (fun h => wsL_law0_r15_in w h) (fun h => (List.mem_append.mp h).elim (fun h => wsL_law0_r16_in w h) (fun h => (List.mem_append.mp h).elim (fun h => wsL_law0_r17_in w h) (fun h => (List.mem_append.mp h).elim (fun h => wsL_law0_r18_in w h) (fun h => (List.mem_append.mp h).elim (fun h => wsL_law0_r19_in w h) (fun h => (List.mem_append.mp h).elim (fun h => wsL_law0_r20_in w h) (fun h => (List.mem_append.mp h).elim (fun h => wsL_law0_r21_in w h) (fun h => (List.mem_append.mp h).elim (fun h => wsL_law0_r22_in w h) (fun h => (List.mem_append.mp h).elim (fun h => wsL_law0_r23_in w h) (fun h => (List.mem_append.mp h).elim (fun h => wsL_law0_r24_in w h) (fun h => (List.mem_append.mp h).elim (fun h => wsL_law0_r25_in w h) (fun h => (List.mem_append.mp h).elim (fun h => wsL_law0_r26_in w h) (fun h => wsL_law0_r27_in w h))))))))))))))))))))))))))
theorem wsX60_in : ∀ w ∈ wsX60, w ∈ lw_tbl := by decide +kernel
theorem wsX70_in : ∀ w ∈ wsX70, w ∈ lw_tbl := by decide +kernel
theorem wsX50_in : ∀ w ∈ wsX50, w ∈ lw_tbl := by decide +kernel
theorem wsX30_in : ∀ w ∈ wsX30, w ∈ lw_tbl := by decide +kernel
theorem wsX10_in : ∀ w ∈ wsX10, w ∈ lw_tbl := by decide +kernel
theorem wsX40_in : ∀ w ∈ wsX40, w ∈ lw_tbl := by decide +kernel
theorem wsX20_in : ∀ w ∈ wsX20, w ∈ lw_tbl := by decide +kernel
theorem wsX00_in : ∀ w ∈ wsX00, w ∈ lw_tbl := by decide +kernel
theorem wsL_law_in0 : ∀ w ∈ wsL_law0, w ∈ lw_tbl := fun w h => (List.mem_append.mp h).elim (fun h => (List.mem_append.mp h).elim (fun h => (List.mem_append.mp h).elim (fun h => (List.mem_append.mp h).elim (fun h => (List.mem_append.mp h).elim (fun h => (List.mem_append.mp h).elim (fun h => (List.mem_append.mp h).elim (fun h => (List.mem_append.mp h).elim (fun h => (List.mem_append.mp h).elim (fun h => wsL_law0_rs_in w h) (fun h => wsX60_in w h)) (fun h => wsX70_in w h)) (fun h => wsX50_in w h)) (fun h => wsX30_in w h)) (fun h => wsX10_in w h)) (fun h => wsX40_in w h)) (fun h => wsX20_in w h)) (fun h => wsX00_in w h)) (fun h => nomatch h)
end
section
theorem wsL_law_x0 : ∀ w ∈ (vx_atS RX6 180 "java/lang/IllegalArgumentException" ["java/lang/RuntimeException", "java/lang/Exception"]).filter goodWord, w ∈ lw_tbl := by decide +kernel
theorem wsL_law_x1 : ∀ w ∈ (vx_atS RX6 187 "java/lang/IllegalStateException" ["java/lang/RuntimeException", "java/lang/Exception"]).filter goodWord, w ∈ lw_tbl := by decide +kernel
theorem wsL_law_x2 : ∀ w ∈ (vx_atS RX6 192 "java/lang/IndexOutOfBoundsException" ["java/lang/RuntimeException", "java/lang/Exception"]).filter goodWord, w ∈ lw_tbl := by decide +kernel
end
section
theorem wsL_law_in : ∀ w ∈ wsL_law, w ∈ lw_tbl := fun w h => (List.mem_append.mp h).elim (fun h => (List.mem_append.mp h).elim (fun h => (List.mem_append.mp h).elim (fun h => wsL_law_in0 w h) (fun h => wsL_law_x0 w h)) (fun h => wsL_law_x1 w h)) (fun h => wsL_law_x2 w h)
theorem inlX0 : ∀ w ∈ wsX00, w ∈ wsL_law := fun _ h => List.mem_append_left _ (List.mem_append_left _ (List.mem_append_left _ (List.mem_append_left _ (List.mem_append_right _ h))))
theorem inX0 : ∀ w ∈ wsX00, w ∈ lw_tbl := fun w h => wsL_law_in w (inlX0 w h)
theorem inlX1 : ∀ w ∈ wsX10, w ∈ wsL_law := fun _ h => List.mem_append_left _ (List.mem_append_left _ (List.mem_append_left _ (List.mem_append_left _ (List.mem_append_left _ (List.mem_append_left _ (List.mem_append_left _ (List.mem_append_right _ h)))))))
theorem inX1 : ∀ w ∈ wsX10, w ∈ lw_tbl := fun w h => wsL_law_in w (inlX1 w h)
theorem inlX2 : ∀ w ∈ wsX20, w ∈ wsL_law := fun _ h => List.mem_append_left _ (List.mem_append_left _ (List.mem_append_left _ (List.mem_append_left _ (List.mem_append_left _ (List.mem_append_right _ h)))))
theorem inX2 : ∀ w ∈ wsX20, w ∈ lw_tbl := fun w h => wsL_law_in w (inlX2 w h)
theorem inlX3 : ∀ w ∈ wsX30, w ∈ wsL_law := fun _ h => List.mem_append_left _ (List.mem_append_left _ (List.mem_append_left _ (List.mem_append_left _ (List.mem_append_left _ (List.mem_append_left _ (List.mem_append_left _ (List.mem_append_left _ (List.mem_append_right _ h))))))))
theorem inX3 : ∀ w ∈ wsX30, w ∈ lw_tbl := fun w h => wsL_law_in w (inlX3 w h)
theorem inlX4 : ∀ w ∈ wsX40, w ∈ wsL_law := fun _ h => List.mem_append_left _ (List.mem_append_left _ (List.mem_append_left _ (List.mem_append_left _ (List.mem_append_left _ (List.mem_append_left _ (List.mem_append_right _ h))))))
theorem inX4 : ∀ w ∈ wsX40, w ∈ lw_tbl := fun w h => wsL_law_in w (inlX4 w h)
theorem inlX5 : ∀ w ∈ wsX50, w ∈ wsL_law := fun _ h => List.mem_append_left _ (List.mem_append_left _ (List.mem_append_left _ (List.mem_append_left _ (List.mem_append_left _ (List.mem_append_left _ (List.mem_append_left _ (List.mem_append_left _ (List.mem_append_left _ (List.mem_append_right _ h)))))))))
theorem inX5 : ∀ w ∈ wsX50, w ∈ lw_tbl := fun w h => wsL_law_in w (inlX5 w h)
theorem inlX6 : ∀ w ∈ wsX60, w ∈ wsL_law := fun _ h => List.mem_append_left _ (List.mem_append_left _ (List.mem_append_left _ (List.mem_append_left _ (List.mem_append_left _ (List.mem_append_left _ (List.mem_append_left _ (List.mem_append_left _ (List.mem_append_left _ (List.mem_append_left _ (List.mem_append_left _ (List.mem_append_right _ h)))))))))))
theorem inX6 : ∀ w ∈ wsX60, w ∈ lw_tbl := fun w h => wsL_law_in w (inlX6 w h)
theorem inlX7 : ∀ w ∈ wsX70, w ∈ wsL_law := fun _ h => List.mem_append_left _ (List.mem_append_left _ (List.mem_append_left _ (List.mem_append_left _ (List.mem_append_left _ (List.mem_append_left _ (List.mem_append_left _ (List.mem_append_left _ (List.mem_append_left _ (List.mem_append_left _ (List.mem_append_right _ h))))))))))
theorem inX7 : ∀ w ∈ wsX70, w ∈ lw_tbl := fun w h => wsL_law_in w (inlX7 w h)
theorem inJ9 : ∀ w ∈ wsJ90, w ∈ lw_tbl := by decide +kernel
theorem inJ0 : ∀ w ∈ wsJ00, w ∈ lw_tbl := by decide +kernel
theorem dX0_init_0 : decode cX0_init 0 = .ok (.aload_n 0, 1) := by decide +kernel
theorem dX0_init_1 : decode cX0_init 1 = .ok (.invokespecial 3, 3) := by decide +kernel
theorem dX0_init_4 : decode cX0_init 4 = .ok (.aload_n 0, 1) := by decide +kernel
theorem dX0_init_5 : decode cX0_init 5 = .ok (.sipush 300, 3) := by decide +kernel
theorem dX0_init_8 : decode cX0_init 8 = .ok (.newarray .int, 2) := by decide +kernel
theorem dX0_init_10 : decode cX0_init 10 = .ok (.putfield 9, 3) := by decide +kernel
theorem dX0_init_13 : decode cX0_init 13 = .ok (.aload_n 0, 1) := by decide +kernel
theorem dX0_init_14 : decode cX0_init 14 = .ok (.sipush 300, 3) := by decide +kernel
theorem dX0_init_17 : decode cX0_init 17 = .ok (.newarray .int, 2) := by decide +kernel
theorem dX0_init_19 : decode cX0_init 19 = .ok (.putfield 15, 3) := by decide +kernel
theorem dX0_init_22 : decode cX0_init 22 = .ok (.return_, 1) := by decide +kernel
theorem dX0_startAgain_0 : decode cX0_startAgain 0 = .ok (.aload_n 0, 1) := by decide +kernel
theorem dX0_startAgain_1 : decode cX0_startAgain 1 = .ok (.iload_n 1, 1) := by decide +kernel
theorem dX0_startAgain_2 : decode cX0_startAgain 2 = .ok (.putfield 18, 3) := by decide +kernel
theorem dX0_startAgain_5 : decode cX0_startAgain 5 = .ok (.aload_n 0, 1) := by decide +kernel
theorem dX0_startAgain_6 : decode cX0_startAgain 6 = .ok (.iconst 0, 1) := by decide +kernel
theorem dX0_startAgain_7 : decode cX0_startAgain 7 = .ok (.putfield 22, 3) := by decide +kernel
theorem dX0_startAgain_10 : decode cX0_startAgain 10 = .ok (.aload_n 0, 1) := by decide +kernel
theorem dX0_startAgain_11 : decode cX0_startAgain 11 = .ok (.iconst 0, 1) := by decide +kernel
theorem dX0_startAgain_12 : decode cX0_startAgain 12 = .ok (.putfield 25, 3) := by decide +kernel
theorem dX0_startAgain_15 : decode cX0_startAgain 15 = .ok (.aload_n 0, 1) := by decide +kernel
theorem dX0_startAgain_16 : decode cX0_startAgain 16 = .ok (.iconst 0, 1) := by decide +kernel
theorem dX0_startAgain_17 : decode cX0_startAgain 17 = .ok (.putfield 28, 3) := by decide +kernel
theorem dX0_startAgain_20 : decode cX0_startAgain 20 = .ok (.return_, 1) := by decide +kernel
set_option maxRecDepth 20000 in
theorem ggX0_give_X6_remainder : GoodIn wsX0_give wsX6_remainder := goodIn_r _ [12] (by decide +kernel) (by decide +kernel)
set_option maxRecDepth 20000 in
theorem gX0_give_X6_remainder_n37 : GoodIn wsX0_give (wsX6_remainder) := ggX0_give_X6_remainder
set_option maxRecDepth 20000 in
theorem ggX0_give_X0_append : GoodIn wsX0_give wsX0_append := goodIn_r _ [17, 18, 7, 9, 1, 8, 19, 11, 20, 10, 12, 23, 24, 25, 26, 27, 28] (by decide +kernel) (by decide +kernel)
set_option maxRecDepth 20000 in
theorem gX0_give_X0_append : GoodIn wsX0_give (wsV RX0 40 RX0 yX0_append wsX0_append) := goodIn_app (goodIn_of _ (by decide +kernel)) ggX0_give_X0_append
set_option maxRecDepth 20000 in
theorem ggX0_give_X6_at : GoodIn wsX0_give wsX6_at := goodIn_r _ [22] (by decide +kernel) (by decide +kernel)
set_option maxRecDepth 20000 in
theorem gX0_give_X6_at_n44 : GoodIn wsX0_give (wsX6_at) := ggX0_give_X6_at
theorem dX0_give_0 : decode cX0_give 0 = .ok (.iload_n 3, 1) := by decide +kernel
theorem dX0_give_1 : decode cX0_give 1 = .ok (.iload_n 2, 1) := by decide +kernel
theorem dX0_give_2 : decode cX0_give 2 = .ok (.aload_n 0, 1) := by decide +kernel
theorem dX0_give_3 : decode cX0_give 3 = .ok (.getfield 18, 3) := by decide +kernel
theorem dX0_give_6 : decode cX0_give 6 = .ok (.invokestatic 31, 3) := by decide +kernel
theorem dX0_give_9 : decode cX0_give 9 = .ok (.invokestatic 37, 3) := by decide +kernel
theorem dX0_give_12 : decode cX0_give 12 = .ok (.ifCond .ne 24, 3) := by decide +kernel
theorem dX0_give_15 : decode cX0_give 15 = .ok (.aload_n 0, 1) := by decide +kernel
theorem dX0_give_16 : decode cX0_give 16 = .ok (.iconst 0, 1) := by decide +kernel
theorem dX0_give_17 : decode cX0_give 17 = .ok (.putfield 22, 3) := by decide +kernel
theorem dX0_give_20 : decode cX0_give 20 = .ok (.aload_n 0, 1) := by decide +kernel
theorem dX0_give_21 : decode cX0_give 21 = .ok (.iconst 0, 1) := by decide +kernel
theorem dX0_give_22 : decode cX0_give 22 = .ok (.putfield 25, 3) := by decide +kernel
theorem dX0_give_25 : decode cX0_give 25 = .ok (.aload_n 0, 1) := by decide +kernel
theorem dX0_give_26 : decode cX0_give 26 = .ok (.iload_n 1, 1) := by decide +kernel
theorem dX0_give_27 : decode cX0_give 27 = .ok (.iload_n 2, 1) := by decide +kernel
theorem dX0_give_28 : decode cX0_give 28 = .ok (.iload 4, 2) := by decide +kernel
theorem dX0_give_30 : decode cX0_give 30 = .ok (.invokevirtual 40, 3) := by decide +kernel
theorem dX0_give_33 : decode cX0_give 33 = .ok (.goto 19, 3) := by decide +kernel
theorem dX0_give_36 : decode cX0_give 36 = .ok (.iload_n 2, 1) := by decide +kernel
theorem dX0_give_37 : decode cX0_give 37 = .ok (.aload_n 0, 1) := by decide +kernel
theorem dX0_give_38 : decode cX0_give 38 = .ok (.getfield 28, 3) := by decide +kernel
theorem dX0_give_41 : decode cX0_give 41 = .ok (.if_icmp .ne 11, 3) := by decide +kernel
theorem dX0_give_44 : decode cX0_give 44 = .ok (.aload_n 0, 1) := by decide +kernel
theorem dX0_give_45 : decode cX0_give 45 = .ok (.iload_n 1, 1) := by decide +kernel
theorem dX0_give_46 : decode cX0_give 46 = .ok (.iload_n 2, 1) := by decide +kernel
theorem dX0_give_47 : decode cX0_give 47 = .ok (.iload 4, 2) := by decide +kernel
theorem dX0_give_49 : decode cX0_give 49 = .ok (.invokevirtual 40, 3) := by decide +kernel
theorem dX0_give_52 : decode cX0_give 52 = .ok (.aload_n 0, 1) := by decide +kernel
theorem dX0_give_53 : decode cX0_give 53 = .ok (.getfield 22, 3) := by decide +kernel
theorem dX0_give_56 : decode cX0_give 56 = .ok (.aload_n 0, 1) := by decide +kernel
theorem dX0_give_57 : decode cX0_give 57 = .ok (.getfield 25, 3) := by decide +kernel
theorem dX0_give_60 : decode cX0_give 60 = .ok (.if_icmp .ge 36, 3) := by decide +kernel
theorem dX0_give_63 : decode cX0_give 63 = .ok (.aload_n 0, 1) := by decide +kernel
theorem dX0_give_64 : decode cX0_give 64 = .ok (.getfield 15, 3) := by decide +kernel
theorem dX0_give_67 : decode cX0_give 67 = .ok (.aload_n 0, 1) := by decide +kernel
theorem dX0_give_68 : decode cX0_give 68 = .ok (.getfield 22, 3) := by decide +kernel
theorem dX0_give_71 : decode cX0_give 71 = .ok (.invokestatic 44, 3) := by decide +kernel
theorem dX0_give_74 : decode cX0_give 74 = .ok (.iload_n 2, 1) := by decide +kernel
theorem dX0_give_75 : decode cX0_give 75 = .ok (.aload_n 0, 1) := by decide +kernel
theorem dX0_give_76 : decode cX0_give 76 = .ok (.getfield 18, 3) := by decide +kernel
theorem dX0_give_79 : decode cX0_give 79 = .ok (.isub, 1) := by decide +kernel
theorem dX0_give_80 : decode cX0_give 80 = .ok (.if_icmp .gt 16, 3) := by decide +kernel
theorem dX0_give_83 : decode cX0_give 83 = .ok (.aload_n 0, 1) := by decide +kernel
theorem dX0_give_84 : decode cX0_give 84 = .ok (.dup, 1) := by decide +kernel
theorem dX0_give_85 : decode cX0_give 85 = .ok (.getfield 22, 3) := by decide +kernel
theorem dX0_give_88 : decode cX0_give 88 = .ok (.iconst 1, 1) := by decide +kernel
theorem dX0_give_89 : decode cX0_give 89 = .ok (.iadd, 1) := by decide +kernel
theorem dX0_give_90 : decode cX0_give 90 = .ok (.putfield 22, 3) := by decide +kernel
theorem dX0_give_93 : decode cX0_give 93 = .ok (.goto (-41), 3) := by decide +kernel
theorem dX0_give_96 : decode cX0_give 96 = .ok (.return_, 1) := by decide +kernel
set_option maxRecDepth 20000 in
theorem ggX0_append_X6_put : GoodIn wsX0_append wsX6_put := goodIn_r _ [8] (by decide +kernel) (by decide +kernel)
set_option maxRecDepth 20000 in
theorem gX0_append_X6_put_n48 : GoodIn wsX0_append (wsX6_put) := ggX0_append_X6_put
set_option maxRecDepth 20000 in
theorem ggX0_append_X6_remainder : GoodIn wsX0_append wsX6_remainder := goodIn_r _ [10] (by decide +kernel) (by decide +kernel)
set_option maxRecDepth 20000 in
theorem gX0_append_X6_remainder_n37 : GoodIn wsX0_append (wsX6_remainder) := ggX0_append_X6_remainder
theorem dX0_append_0 : decode cX0_append 0 = .ok (.aload_n 0, 1) := by decide +kernel
theorem dX0_append_1 : decode cX0_append 1 = .ok (.getfield 9, 3) := by decide +kernel
theorem dX0_append_4 : decode cX0_append 4 = .ok (.aload_n 0, 1) := by decide +kernel
theorem dX0_append_5 : decode cX0_append 5 = .ok (.getfield 25, 3) := by decide +kernel
theorem dX0_append_8 : decode cX0_append 8 = .ok (.iload_n 1, 1) := by decide +kernel
theorem dX0_append_9 : decode cX0_append 9 = .ok (.invokestatic 48, 3) := by decide +kernel
theorem dX0_append_12 : decode cX0_append 12 = .ok (.aload_n 0, 1) := by decide +kernel
theorem dX0_append_13 : decode cX0_append 13 = .ok (.getfield 15, 3) := by decide +kernel
theorem dX0_append_16 : decode cX0_append 16 = .ok (.aload_n 0, 1) := by decide +kernel
theorem dX0_append_17 : decode cX0_append 17 = .ok (.getfield 25, 3) := by decide +kernel
theorem dX0_append_20 : decode cX0_append 20 = .ok (.iload_n 2, 1) := by decide +kernel
theorem dX0_append_21 : decode cX0_append 21 = .ok (.invokestatic 48, 3) := by decide +kernel
theorem dX0_append_24 : decode cX0_append 24 = .ok (.aload_n 0, 1) := by decide +kernel
theorem dX0_append_25 : decode cX0_append 25 = .ok (.dup, 1) := by decide +kernel
theorem dX0_append_26 : decode cX0_append 26 = .ok (.getfield 25, 3) := by decide +kernel
theorem dX0_append_29 : decode cX0_append 29 = .ok (.iconst 1, 1) := by decide +kernel
theorem dX0_append_30 : decode cX0_append 30 = .ok (.iadd, 1) := by decide +kernel
theorem dX0_append_31 : decode cX0_append 31 = .ok (.putfield 25, 3) := by decide +kernel
theorem dX0_append_34 : decode cX0_append 34 = .ok (.aload_n 0, 1) := by decide +kernel
theorem dX0_append_35 : decode cX0_append 35 = .ok (.iload_n 2, 1) := by decide +kernel
theorem dX0_append_36 : decode cX0_append 36 = .ok (.iconst 1, 1) := by decide +kernel
theorem dX0_append_37 : decode cX0_append 37 = .ok (.iadd, 1) := by decide +kernel
theorem dX0_append_38 : decode cX0_append 38 = .ok (.iload_n 3, 1) := by decide +kernel
theorem dX0_append_39 : decode cX0_append 39 = .ok (.aload_n 0, 1) := by decide +kernel
theorem dX0_append_40 : decode cX0_append 40 = .ok (.getfield 18, 3) := by decide +kernel
theorem dX0_append_43 : decode cX0_append 43 = .ok (.invokestatic 37, 3) := by decide +kernel
theorem dX0_append_46 : decode cX0_append 46 = .ok (.iadd, 1) := by decide +kernel
theorem dX0_append_47 : decode cX0_append 47 = .ok (.putfield 28, 3) := by decide +kernel
theorem dX0_append_50 : decode cX0_append 50 = .ok (.return_, 1) := by decide +kernel
theorem dX0_length_0 : decode cX0_length 0 = .ok (.aload_n 0, 1) := by decide +kernel
theorem dX0_length_1 : decode cX0_length 1 = .ok (.getfield 25, 3) := by decide +kernel
theorem dX0_length_4 : decode cX0_length 4 = .ok (.aload_n 0, 1) := by decide +kernel
theorem dX0_length_5 : decode cX0_length 5 = .ok (.getfield 22, 3) := by decide +kernel
theorem dX0_length_8 : decode cX0_length 8 = .ok (.isub, 1) := by decide +kernel
theorem dX0_length_9 : decode cX0_length 9 = .ok (.ireturn, 1) := by decide +kernel
theorem dX1_init_0 : decode cX1_init 0 = .ok (.aload_n 0, 1) := by decide +kernel
theorem dX1_init_1 : decode cX1_init 1 = .ok (.invokespecial 3, 3) := by decide +kernel
theorem dX1_init_4 : decode cX1_init 4 = .ok (.aload_n 0, 1) := by decide +kernel
theorem dX1_init_5 : decode cX1_init 5 = .ok (.bipush 16, 2) := by decide +kernel
theorem dX1_init_7 : decode cX1_init 7 = .ok (.newarray .int, 2) := by decide +kernel
theorem dX1_init_9 : decode cX1_init 9 = .ok (.putfield 9, 3) := by decide +kernel
theorem dX1_init_12 : decode cX1_init 12 = .ok (.aload_n 0, 1) := by decide +kernel
theorem dX1_init_13 : decode cX1_init 13 = .ok (.bipush 16, 2) := by decide +kernel
theorem dX1_init_15 : decode cX1_init 15 = .ok (.newarray .int, 2) := by decide +kernel
theorem dX1_init_17 : decode cX1_init 17 = .ok (.putfield 15, 3) := by decide +kernel
theorem dX1_init_20 : decode cX1_init 20 = .ok (.return_, 1) := by decide +kernel
theorem dX1_startAgain_0 : decode cX1_startAgain 0 = .ok (.aload_n 0, 1) := by decide +kernel
theorem dX1_startAgain_1 : decode cX1_startAgain 1 = .ok (.iload_n 1, 1) := by decide +kernel
theorem dX1_startAgain_2 : decode cX1_startAgain 2 = .ok (.putfield 18, 3) := by decide +kernel
theorem dX1_startAgain_5 : decode cX1_startAgain 5 = .ok (.aload_n 0, 1) := by decide +kernel
theorem dX1_startAgain_6 : decode cX1_startAgain 6 = .ok (.iconst 0, 1) := by decide +kernel
theorem dX1_startAgain_7 : decode cX1_startAgain 7 = .ok (.putfield 22, 3) := by decide +kernel
theorem dX1_startAgain_10 : decode cX1_startAgain 10 = .ok (.return_, 1) := by decide +kernel
set_option maxRecDepth 20000 in
theorem ggX1_addAll_X6_at : GoodIn wsX1_addAll wsX6_at := goodIn_r _ [6] (by decide +kernel) (by decide +kernel)
set_option maxRecDepth 20000 in
theorem gX1_addAll_X6_at_n25 : GoodIn wsX1_addAll (wsX6_at) := ggX1_addAll_X6_at
set_option maxRecDepth 20000 in
theorem ggX1_addAll_X1_add : GoodIn wsX1_addAll wsX1_add := goodIn_r _ [11, 1, 2, 3, 12, 13, 14, 15, 16, 17, 18, 19, 10, 20, 21, 22, 23, 24, 25, 4, 5, 6, 26, 27, 28, 29, 30, 31, 32, 33, 34, 35] (by decide +kernel) (by decide +kernel)
set_option maxRecDepth 20000 in
theorem gX1_addAll_X1_add : GoodIn wsX1_addAll (wsV RX1 29 RX1 yX1_add wsX1_add) := goodIn_app (goodIn_of _ (by decide +kernel)) ggX1_addAll_X1_add
theorem dX1_addAll_0 : decode cX1_addAll 0 = .ok (.aload_n 1, 1) := by decide +kernel
theorem dX1_addAll_1 : decode cX1_addAll 1 = .ok (.getfield 22, 3) := by decide +kernel
theorem dX1_addAll_4 : decode cX1_addAll 4 = .ok (.istore_n 2, 1) := by decide +kernel
theorem dX1_addAll_5 : decode cX1_addAll 5 = .ok (.iconst 0, 1) := by decide +kernel
theorem dX1_addAll_6 : decode cX1_addAll 6 = .ok (.istore_n 3, 1) := by decide +kernel
theorem dX1_addAll_7 : decode cX1_addAll 7 = .ok (.iload_n 3, 1) := by decide +kernel
theorem dX1_addAll_8 : decode cX1_addAll 8 = .ok (.iload_n 2, 1) := by decide +kernel
theorem dX1_addAll_9 : decode cX1_addAll 9 = .ok (.if_icmp .ge 29, 3) := by decide +kernel
theorem dX1_addAll_12 : decode cX1_addAll 12 = .ok (.aload_n 0, 1) := by decide +kernel
theorem dX1_addAll_13 : decode cX1_addAll 13 = .ok (.aload_n 1, 1) := by decide +kernel
theorem dX1_addAll_14 : decode cX1_addAll 14 = .ok (.getfield 9, 3) := by decide +kernel
theorem dX1_addAll_17 : decode cX1_addAll 17 = .ok (.iload_n 3, 1) := by decide +kernel
theorem dX1_addAll_18 : decode cX1_addAll 18 = .ok (.invokestatic 25, 3) := by decide +kernel
theorem dX1_addAll_21 : decode cX1_addAll 21 = .ok (.aload_n 1, 1) := by decide +kernel
theorem dX1_addAll_22 : decode cX1_addAll 22 = .ok (.getfield 15, 3) := by decide +kernel
theorem dX1_addAll_25 : decode cX1_addAll 25 = .ok (.iload_n 3, 1) := by decide +kernel
theorem dX1_addAll_26 : decode cX1_addAll 26 = .ok (.invokestatic 25, 3) := by decide +kernel
theorem dX1_addAll_29 : decode cX1_addAll 29 = .ok (.invokevirtual 29, 3) := by decide +kernel
theorem dX1_addAll_32 : decode cX1_addAll 32 = .ok (.iinc 3 1, 3) := by decide +kernel
theorem dX1_addAll_35 : decode cX1_addAll 35 = .ok (.goto (-28), 3) := by decide +kernel
theorem dX1_addAll_38 : decode cX1_addAll 38 = .ok (.return_, 1) := by decide +kernel
set_option maxRecDepth 20000 in
theorem ggX1_add_X1_placeFor : GoodIn wsX1_add wsX1_placeFor := goodIn_r _ [13, 1, 2, 14, 15, 12, 16, 17, 18, 19, 20, 21, 28, 29, 30, 31] (by decide +kernel) (by decide +kernel)
set_option maxRecDepth 20000 in
theorem gX1_add_X1_placeFor : GoodIn wsX1_add (wsV RX1 33 RX1 yX1_placeFor wsX1_placeFor) := goodIn_app (goodIn_of _ (by decide +kernel)) ggX1_add_X1_placeFor
set_option maxRecDepth 20000 in
theorem ggX1_add_X6_at : GoodIn wsX1_add wsX6_at := goodIn_r _ [21] (by decide +kernel) (by decide +kernel)
set_option maxRecDepth 20000 in
theorem gX1_add_X6_at_n25 : GoodIn wsX1_add (wsX6_at) := ggX1_add_X6_at
set_option maxRecDepth 20000 in
theorem ggX1_add_X6_put : GoodIn wsX1_add wsX6_put := goodIn_r _ [23] (by decide +kernel) (by decide +kernel)
set_option maxRecDepth 20000 in
theorem gX1_add_X6_put_n37 : GoodIn wsX1_add (wsX6_put) := ggX1_add_X6_put
set_option maxRecDepth 20000 in
theorem ggX1_add_X6_insert : GoodIn wsX1_add wsX6_insert := goodIn_r _ [25, 26, 19, 20, 21, 27, 22, 23] (by decide +kernel) (by decide +kernel)
set_option maxRecDepth 20000 in
theorem gX1_add_X6_insert_n47 : GoodIn wsX1_add (wsX6_insert) := ggX1_add_X6_insert
theorem dX1_add_0 : decode cX1_add 0 = .ok (.aload_n 0, 1) := by decide +kernel
theorem dX1_add_1 : decode cX1_add 1 = .ok (.iload_n 1, 1) := by decide +kernel
theorem dX1_add_2 : decode cX1_add 2 = .ok (.invokevirtual 33, 3) := by decide +kernel
theorem dX1_add_5 : decode cX1_add 5 = .ok (.istore_n 3, 1) := by decide +kernel
theorem dX1_add_6 : decode cX1_add 6 = .ok (.iload_n 3, 1) := by decide +kernel
theorem dX1_add_7 : decode cX1_add 7 = .ok (.aload_n 0, 1) := by decide +kernel
theorem dX1_add_8 : decode cX1_add 8 = .ok (.getfield 22, 3) := by decide +kernel
theorem dX1_add_11 : decode cX1_add 11 = .ok (.if_icmp .ge 34, 3) := by decide +kernel
theorem dX1_add_14 : decode cX1_add 14 = .ok (.aload_n 0, 1) := by decide +kernel
theorem dX1_add_15 : decode cX1_add 15 = .ok (.getfield 9, 3) := by decide +kernel
theorem dX1_add_18 : decode cX1_add 18 = .ok (.iload_n 3, 1) := by decide +kernel
theorem dX1_add_19 : decode cX1_add 19 = .ok (.invokestatic 25, 3) := by decide +kernel
theorem dX1_add_22 : decode cX1_add 22 = .ok (.iload_n 1, 1) := by decide +kernel
theorem dX1_add_23 : decode cX1_add 23 = .ok (.if_icmp .ne 22, 3) := by decide +kernel
theorem dX1_add_26 : decode cX1_add 26 = .ok (.aload_n 0, 1) := by decide +kernel
theorem dX1_add_27 : decode cX1_add 27 = .ok (.getfield 15, 3) := by decide +kernel
theorem dX1_add_30 : decode cX1_add 30 = .ok (.iload_n 3, 1) := by decide +kernel
theorem dX1_add_31 : decode cX1_add 31 = .ok (.aload_n 0, 1) := by decide +kernel
theorem dX1_add_32 : decode cX1_add 32 = .ok (.getfield 15, 3) := by decide +kernel
theorem dX1_add_35 : decode cX1_add 35 = .ok (.iload_n 3, 1) := by decide +kernel
theorem dX1_add_36 : decode cX1_add 36 = .ok (.invokestatic 25, 3) := by decide +kernel
theorem dX1_add_39 : decode cX1_add 39 = .ok (.iload_n 2, 1) := by decide +kernel
theorem dX1_add_40 : decode cX1_add 40 = .ok (.iadd, 1) := by decide +kernel
theorem dX1_add_41 : decode cX1_add 41 = .ok (.invokestatic 37, 3) := by decide +kernel
theorem dX1_add_44 : decode cX1_add 44 = .ok (.return_, 1) := by decide +kernel
theorem dX1_add_45 : decode cX1_add 45 = .ok (.iload_n 3, 1) := by decide +kernel
theorem dX1_add_46 : decode cX1_add 46 = .ok (.aload_n 0, 1) := by decide +kernel
theorem dX1_add_47 : decode cX1_add 47 = .ok (.getfield 18, 3) := by decide +kernel
theorem dX1_add_50 : decode cX1_add 50 = .ok (.if_icmp .lt 4, 3) := by decide +kernel
theorem dX1_add_53 : decode cX1_add 53 = .ok (.return_, 1) := by decide +kernel
theorem dX1_add_54 : decode cX1_add 54 = .ok (.aload_n 0, 1) := by decide +kernel
theorem dX1_add_55 : decode cX1_add 55 = .ok (.aload_n 0, 1) := by decide +kernel
theorem dX1_add_56 : decode cX1_add 56 = .ok (.getfield 22, 3) := by decide +kernel
theorem dX1_add_59 : decode cX1_add 59 = .ok (.iconst 1, 1) := by decide +kernel
theorem dX1_add_60 : decode cX1_add 60 = .ok (.iadd, 1) := by decide +kernel
theorem dX1_add_61 : decode cX1_add 61 = .ok (.aload_n 0, 1) := by decide +kernel
theorem dX1_add_62 : decode cX1_add 62 = .ok (.getfield 18, 3) := by decide +kernel
theorem dX1_add_65 : decode cX1_add 65 = .ok (.invokestatic 41, 3) := by decide +kernel
theorem dX1_add_68 : decode cX1_add 68 = .ok (.putfield 22, 3) := by decide +kernel
theorem dX1_add_71 : decode cX1_add 71 = .ok (.aload_n 0, 1) := by decide +kernel
theorem dX1_add_72 : decode cX1_add 72 = .ok (.getfield 9, 3) := by decide +kernel
theorem dX1_add_75 : decode cX1_add 75 = .ok (.iload_n 3, 1) := by decide +kernel
theorem dX1_add_76 : decode cX1_add 76 = .ok (.aload_n 0, 1) := by decide +kernel
theorem dX1_add_77 : decode cX1_add 77 = .ok (.getfield 22, 3) := by decide +kernel
theorem dX1_add_80 : decode cX1_add 80 = .ok (.iload_n 1, 1) := by decide +kernel
theorem dX1_add_81 : decode cX1_add 81 = .ok (.invokestatic 47, 3) := by decide +kernel
theorem dX1_add_84 : decode cX1_add 84 = .ok (.aload_n 0, 1) := by decide +kernel
theorem dX1_add_85 : decode cX1_add 85 = .ok (.getfield 15, 3) := by decide +kernel
theorem dX1_add_88 : decode cX1_add 88 = .ok (.iload_n 3, 1) := by decide +kernel
theorem dX1_add_89 : decode cX1_add 89 = .ok (.aload_n 0, 1) := by decide +kernel
theorem dX1_add_90 : decode cX1_add 90 = .ok (.getfield 22, 3) := by decide +kernel
theorem dX1_add_93 : decode cX1_add 93 = .ok (.iload_n 2, 1) := by decide +kernel
theorem dX1_add_94 : decode cX1_add 94 = .ok (.invokestatic 47, 3) := by decide +kernel
theorem dX1_add_97 : decode cX1_add 97 = .ok (.return_, 1) := by decide +kernel
set_option maxRecDepth 20000 in
theorem ggX1_placeFor_X1_hashOf : GoodIn wsX1_placeFor wsX1_hashOf := goodIn_r _ [6, 7, 8] (by decide +kernel) (by decide +kernel)
set_option maxRecDepth 20000 in
theorem gX1_placeFor_X1_hashOf : GoodIn wsX1_placeFor (va_wsS RX1 51 yX1_hashOf wsX1_hashOf) := goodIn_app (goodIn_of _ (by decide +kernel)) ggX1_placeFor_X1_hashOf
set_option maxRecDepth 20000 in
theorem ggX1_placeFor_X6_at : GoodIn wsX1_placeFor wsX6_at := goodIn_r _ [11] (by decide +kernel) (by decide +kernel)
set_option maxRecDepth 20000 in
theorem gX1_placeFor_X6_at_n25 : GoodIn wsX1_placeFor (wsX6_at) := ggX1_placeFor_X6_at
theorem dX1_placeFor_0 : decode cX1_placeFor 0 = .ok (.iload_n 1, 1) := by decide +kernel
theorem dX1_placeFor_1 : decode cX1_placeFor 1 = .ok (.invokestatic 51, 3) := by decide +kernel
theorem dX1_placeFor_4 : decode cX1_placeFor 4 = .ok (.lstore_n 2, 1) := by decide +kernel
theorem dX1_placeFor_5 : decode cX1_placeFor 5 = .ok (.iconst 0, 1) := by decide +kernel
theorem dX1_placeFor_6 : decode cX1_placeFor 6 = .ok (.istore 4, 2) := by decide +kernel
theorem dX1_placeFor_8 : decode cX1_placeFor 8 = .ok (.iload 4, 2) := by decide +kernel
theorem dX1_placeFor_10 : decode cX1_placeFor 10 = .ok (.aload_n 0, 1) := by decide +kernel
theorem dX1_placeFor_11 : decode cX1_placeFor 11 = .ok (.getfield 22, 3) := by decide +kernel
theorem dX1_placeFor_14 : decode cX1_placeFor 14 = .ok (.if_icmp .ge 26, 3) := by decide +kernel
theorem dX1_placeFor_17 : decode cX1_placeFor 17 = .ok (.aload_n 0, 1) := by decide +kernel
theorem dX1_placeFor_18 : decode cX1_placeFor 18 = .ok (.getfield 9, 3) := by decide +kernel
theorem dX1_placeFor_21 : decode cX1_placeFor 21 = .ok (.iload 4, 2) := by decide +kernel
theorem dX1_placeFor_23 : decode cX1_placeFor 23 = .ok (.invokestatic 25, 3) := by decide +kernel
theorem dX1_placeFor_26 : decode cX1_placeFor 26 = .ok (.invokestatic 51, 3) := by decide +kernel
theorem dX1_placeFor_29 : decode cX1_placeFor 29 = .ok (.lload_n 2, 1) := by decide +kernel
theorem dX1_placeFor_30 : decode cX1_placeFor 30 = .ok (.lcmp, 1) := by decide +kernel
theorem dX1_placeFor_31 : decode cX1_placeFor 31 = .ok (.ifCond .ge 9, 3) := by decide +kernel
theorem dX1_placeFor_34 : decode cX1_placeFor 34 = .ok (.iinc 4 1, 3) := by decide +kernel
theorem dX1_placeFor_37 : decode cX1_placeFor 37 = .ok (.goto (-29), 3) := by decide +kernel
theorem dX1_placeFor_40 : decode cX1_placeFor 40 = .ok (.iload 4, 2) := by decide +kernel
theorem dX1_placeFor_42 : decode cX1_placeFor 42 = .ok (.ireturn, 1) := by decide +kernel
theorem dX1_hashOf_0 : decode cX1_hashOf 0 = .ok (.iload_n 0, 1) := by decide +kernel
theorem dX1_hashOf_1 : decode cX1_hashOf 1 = .ok (.i2l, 1) := by decide +kernel
theorem dX1_hashOf_2 : decode cX1_hashOf 2 = .ok (.ldc2_w 55, 3) := by decide +kernel
theorem dX1_hashOf_5 : decode cX1_hashOf 5 = .ok (.lmul, 1) := by decide +kernel
theorem dX1_hashOf_6 : decode cX1_hashOf 6 = .ok (.ldc2_w 57, 3) := by decide +kernel
theorem dX1_hashOf_9 : decode cX1_hashOf 9 = .ok (.lrem, 1) := by decide +kernel
theorem dX1_hashOf_10 : decode cX1_hashOf 10 = .ok (.lconst 1, 1) := by decide +kernel
theorem dX1_hashOf_11 : decode cX1_hashOf 11 = .ok (.ladd, 1) := by decide +kernel
theorem dX1_hashOf_12 : decode cX1_hashOf 12 = .ok (.lreturn, 1) := by decide +kernel
set_option maxRecDepth 20000 in
theorem ggX1_estimatedCount_X6_at : GoodIn wsX1_estimatedCount wsX6_at := goodIn_r _ [7] (by decide +kernel) (by decide +kernel)
set_option maxRecDepth 20000 in
theorem gX1_estimatedCount_X6_at_n25 : GoodIn wsX1_estimatedCount (wsX6_at) := ggX1_estimatedCount_X6_at
set_option maxRecDepth 20000 in
theorem ggX1_estimatedCount_X1_hashOf : GoodIn wsX1_estimatedCount wsX1_hashOf := goodIn_r _ [11, 12, 3] (by decide +kernel) (by decide +kernel)
set_option maxRecDepth 20000 in
theorem gX1_estimatedCount_X1_hashOf : GoodIn wsX1_estimatedCount (va_wsS RX1 51 yX1_hashOf wsX1_hashOf) := goodIn_app (goodIn_of _ (by decide +kernel)) ggX1_estimatedCount_X1_hashOf
set_option maxRecDepth 20000 in
theorem ggX1_estimatedCount_X6_quotient : GoodIn wsX1_estimatedCount wsX6_quotient := goodIn_r _ [14] (by decide +kernel) (by decide +kernel)
set_option maxRecDepth 20000 in
theorem gX1_estimatedCount_X6_quotient_n59 : GoodIn wsX1_estimatedCount (wsX6_quotient) := ggX1_estimatedCount_X6_quotient
theorem dX1_estimatedCount_0 : decode cX1_estimatedCount 0 = .ok (.aload_n 0, 1) := by decide +kernel
theorem dX1_estimatedCount_1 : decode cX1_estimatedCount 1 = .ok (.getfield 22, 3) := by decide +kernel
theorem dX1_estimatedCount_4 : decode cX1_estimatedCount 4 = .ok (.aload_n 0, 1) := by decide +kernel
theorem dX1_estimatedCount_5 : decode cX1_estimatedCount 5 = .ok (.getfield 18, 3) := by decide +kernel
theorem dX1_estimatedCount_8 : decode cX1_estimatedCount 8 = .ok (.if_icmp .ge 9, 3) := by decide +kernel
theorem dX1_estimatedCount_11 : decode cX1_estimatedCount 11 = .ok (.aload_n 0, 1) := by decide +kernel
theorem dX1_estimatedCount_12 : decode cX1_estimatedCount 12 = .ok (.getfield 22, 3) := by decide +kernel
theorem dX1_estimatedCount_15 : decode cX1_estimatedCount 15 = .ok (.i2l, 1) := by decide +kernel
theorem dX1_estimatedCount_16 : decode cX1_estimatedCount 16 = .ok (.lreturn, 1) := by decide +kernel
theorem dX1_estimatedCount_17 : decode cX1_estimatedCount 17 = .ok (.aload_n 0, 1) := by decide +kernel
theorem dX1_estimatedCount_18 : decode cX1_estimatedCount 18 = .ok (.getfield 18, 3) := by decide +kernel
theorem dX1_estimatedCount_21 : decode cX1_estimatedCount 21 = .ok (.iconst 1, 1) := by decide +kernel
theorem dX1_estimatedCount_22 : decode cX1_estimatedCount 22 = .ok (.isub, 1) := by decide +kernel
theorem dX1_estimatedCount_23 : decode cX1_estimatedCount 23 = .ok (.i2l, 1) := by decide +kernel
theorem dX1_estimatedCount_24 : decode cX1_estimatedCount 24 = .ok (.ldc2_w 57, 3) := by decide +kernel
theorem dX1_estimatedCount_27 : decode cX1_estimatedCount 27 = .ok (.lmul, 1) := by decide +kernel
theorem dX1_estimatedCount_28 : decode cX1_estimatedCount 28 = .ok (.aload_n 0, 1) := by decide +kernel
theorem dX1_estimatedCount_29 : decode cX1_estimatedCount 29 = .ok (.getfield 9, 3) := by decide +kernel
theorem dX1_estimatedCount_32 : decode cX1_estimatedCount 32 = .ok (.aload_n 0, 1) := by decide +kernel
theorem dX1_estimatedCount_33 : decode cX1_estimatedCount 33 = .ok (.getfield 18, 3) := by decide +kernel
theorem dX1_estimatedCount_36 : decode cX1_estimatedCount 36 = .ok (.iconst 1, 1) := by decide +kernel
theorem dX1_estimatedCount_37 : decode cX1_estimatedCount 37 = .ok (.isub, 1) := by decide +kernel
theorem dX1_estimatedCount_38 : decode cX1_estimatedCount 38 = .ok (.invokestatic 25, 3) := by decide +kernel
theorem dX1_estimatedCount_41 : decode cX1_estimatedCount 41 = .ok (.invokestatic 51, 3) := by decide +kernel
theorem dX1_estimatedCount_44 : decode cX1_estimatedCount 44 = .ok (.invokestatic 59, 3) := by decide +kernel
theorem dX1_estimatedCount_47 : decode cX1_estimatedCount 47 = .ok (.lreturn, 1) := by decide +kernel
set_option maxRecDepth 20000 in
theorem ggX2_init_X4_init : GoodIn wsX2_init wsX4_init := goodIn_r _ [9, 10, 2, 3, 11, 12, 13, 14, 15, 16, 17] (by decide +kernel) (by decide +kernel)
set_option maxRecDepth 20000 in
theorem gX2_init_X4_init_n9 : GoodIn wsX2_init (wsX4_init) := ggX2_init_X4_init
theorem dX2_init_0 : decode cX2_init 0 = .ok (.aload_n 0, 1) := by decide +kernel
theorem dX2_init_1 : decode cX2_init 1 = .ok (.invokespecial 1, 3) := by decide +kernel
theorem dX2_init_4 : decode cX2_init 4 = .ok (.aload_n 0, 1) := by decide +kernel
theorem dX2_init_5 : decode cX2_init 5 = .ok (.new 7, 3) := by decide +kernel
end
section
theorem dX2_init_8 : decode cX2_init 8 = .ok (.dup, 1) := by decide +kernel
theorem dX2_init_9 : decode cX2_init 9 = .ok (.invokespecial 9, 3) := by decide +kernel
theorem dX2_init_12 : decode cX2_init 12 = .ok (.putfield 10, 3) := by decide +kernel
theorem dX2_init_15 : decode cX2_init 15 = .ok (.return_, 1) := by decide +kernel
set_option maxRecDepth 20000 in
theorem ggX2_startAgain_X4_startAgain : GoodIn wsX2_startAgain wsX4_startAgain := goodIn_r _ [7, 8, 9, 12, 13, 14, 15] (by decide +kernel) (by decide +kernel)
set_option maxRecDepth 20000 in
theorem gX2_startAgain_X4_startAgain : GoodIn wsX2_startAgain (wsV RX2 20 RX4 yX4_startAgain wsX4_startAgain) := goodIn_app (goodIn_of _ (by decide +kernel)) ggX2_startAgain_X4_startAgain
theorem dX2_startAgain_0 : decode cX2_startAgain 0 = .ok (.aload_n 0, 1) := by decide +kernel
theorem dX2_startAgain_1 : decode cX2_startAgain 1 = .ok (.iconst 0, 1) := by decide +kernel
theorem dX2_startAgain_2 : decode cX2_startAgain 2 = .ok (.putfield 16, 3) := by decide +kernel
theorem dX2_startAgain_5 : decode cX2_startAgain 5 = .ok (.aload_n 0, 1) := by decide +kernel
theorem dX2_startAgain_6 : decode cX2_startAgain 6 = .ok (.getfield 10, 3) := by decide +kernel
theorem dX2_startAgain_9 : decode cX2_startAgain 9 = .ok (.iload_n 1, 1) := by decide +kernel
theorem dX2_startAgain_10 : decode cX2_startAgain 10 = .ok (.invokevirtual 20, 3) := by decide +kernel
theorem dX2_startAgain_13 : decode cX2_startAgain 13 = .ok (.return_, 1) := by decide +kernel
set_option maxRecDepth 20000 in
theorem ggX2_give_X4_give : GoodIn wsX2_give wsX4_give := goodIn_r _ [7, 8, 9, 10, 11, 12, 13, 14, 15, 16, 19, 20, 21, 22] (by decide +kernel) (by decide +kernel)
set_option maxRecDepth 20000 in
theorem gX2_give_X4_give : GoodIn wsX2_give (wsV RX2 24 RX4 yX4_give wsX4_give) := goodIn_app (goodIn_of _ (by decide +kernel)) ggX2_give_X4_give
theorem dX2_give_0 : decode cX2_give 0 = .ok (.aload_n 0, 1) := by decide +kernel
theorem dX2_give_1 : decode cX2_give 1 = .ok (.dup, 1) := by decide +kernel
theorem dX2_give_2 : decode cX2_give 2 = .ok (.getfield 16, 3) := by decide +kernel
theorem dX2_give_5 : decode cX2_give 5 = .ok (.iload_n 2, 1) := by decide +kernel
theorem dX2_give_6 : decode cX2_give 6 = .ok (.iadd, 1) := by decide +kernel
theorem dX2_give_7 : decode cX2_give 7 = .ok (.putfield 16, 3) := by decide +kernel
theorem dX2_give_10 : decode cX2_give 10 = .ok (.aload_n 0, 1) := by decide +kernel
theorem dX2_give_11 : decode cX2_give 11 = .ok (.getfield 10, 3) := by decide +kernel
theorem dX2_give_14 : decode cX2_give 14 = .ok (.iload_n 1, 1) := by decide +kernel
theorem dX2_give_15 : decode cX2_give 15 = .ok (.iload_n 3, 1) := by decide +kernel
theorem dX2_give_16 : decode cX2_give 16 = .ok (.iload 4, 2) := by decide +kernel
theorem dX2_give_18 : decode cX2_give 18 = .ok (.invokevirtual 24, 3) := by decide +kernel
theorem dX2_give_21 : decode cX2_give 21 = .ok (.return_, 1) := by decide +kernel
theorem dX3_init_0 : decode cX3_init 0 = .ok (.aload_n 0, 1) := by decide +kernel
theorem dX3_init_1 : decode cX3_init 1 = .ok (.invokespecial 3, 3) := by decide +kernel
theorem dX3_init_4 : decode cX3_init 4 = .ok (.aload_n 0, 1) := by decide +kernel
theorem dX3_init_5 : decode cX3_init 5 = .ok (.bipush 17, 2) := by decide +kernel
theorem dX3_init_7 : decode cX3_init 7 = .ok (.newarray .int, 2) := by decide +kernel
theorem dX3_init_9 : decode cX3_init 9 = .ok (.putfield 9, 3) := by decide +kernel
theorem dX3_init_12 : decode cX3_init 12 = .ok (.aload_n 0, 1) := by decide +kernel
theorem dX3_init_13 : decode cX3_init 13 = .ok (.bipush 17, 2) := by decide +kernel
theorem dX3_init_15 : decode cX3_init 15 = .ok (.newarray .int, 2) := by decide +kernel
theorem dX3_init_17 : decode cX3_init 17 = .ok (.putfield 15, 3) := by decide +kernel
theorem dX3_init_20 : decode cX3_init 20 = .ok (.aload_n 0, 1) := by decide +kernel
theorem dX3_init_21 : decode cX3_init 21 = .ok (.bipush 17, 2) := by decide +kernel
theorem dX3_init_23 : decode cX3_init 23 = .ok (.newarray .int, 2) := by decide +kernel
theorem dX3_init_25 : decode cX3_init 25 = .ok (.putfield 18, 3) := by decide +kernel
theorem dX3_init_28 : decode cX3_init 28 = .ok (.aload_n 0, 1) := by decide +kernel
theorem dX3_init_29 : decode cX3_init 29 = .ok (.bipush 17, 2) := by decide +kernel
theorem dX3_init_31 : decode cX3_init 31 = .ok (.newarray .int, 2) := by decide +kernel
theorem dX3_init_33 : decode cX3_init 33 = .ok (.putfield 21, 3) := by decide +kernel
theorem dX3_init_36 : decode cX3_init 36 = .ok (.return_, 1) := by decide +kernel
theorem dX3_startAgain_0 : decode cX3_startAgain 0 = .ok (.aload_n 0, 1) := by decide +kernel
theorem dX3_startAgain_1 : decode cX3_startAgain 1 = .ok (.iload_n 1, 1) := by decide +kernel
theorem dX3_startAgain_2 : decode cX3_startAgain 2 = .ok (.putfield 24, 3) := by decide +kernel
theorem dX3_startAgain_5 : decode cX3_startAgain 5 = .ok (.aload_n 0, 1) := by decide +kernel
theorem dX3_startAgain_6 : decode cX3_startAgain 6 = .ok (.iconst 0, 1) := by decide +kernel
theorem dX3_startAgain_7 : decode cX3_startAgain 7 = .ok (.putfield 28, 3) := by decide +kernel
theorem dX3_startAgain_10 : decode cX3_startAgain 10 = .ok (.return_, 1) := by decide +kernel
set_option maxRecDepth 20000 in
theorem ggX3_addAll_X6_at : GoodIn wsX3_addAll wsX6_at := goodIn_r _ [8] (by decide +kernel) (by decide +kernel)
set_option maxRecDepth 20000 in
theorem gX3_addAll_X6_at_n31 : GoodIn wsX3_addAll (wsX6_at) := ggX3_addAll_X6_at
set_option maxRecDepth 20000 in
theorem ggX3_addAll_X3_add : GoodIn wsX3_addAll wsX3_add := goodIn_r _ [13, 14, 1, 15, 16, 17, 18, 2, 3, 4, 5, 19, 20, 21, 12, 22, 23, 24, 25, 26, 6, 7, 8, 27, 28, 29, 30, 31, 32, 33, 34, 35, 36, 37, 38] (by decide +kernel) (by decide +kernel)
set_option maxRecDepth 20000 in
theorem gX3_addAll_X3_add : GoodIn wsX3_addAll (wsV RX3 35 RX3 yX3_add wsX3_add) := goodIn_app (goodIn_of _ (by decide +kernel)) ggX3_addAll_X3_add
theorem dX3_addAll_0 : decode cX3_addAll 0 = .ok (.aload_n 1, 1) := by decide +kernel
theorem dX3_addAll_1 : decode cX3_addAll 1 = .ok (.getfield 28, 3) := by decide +kernel
theorem dX3_addAll_4 : decode cX3_addAll 4 = .ok (.istore_n 2, 1) := by decide +kernel
theorem dX3_addAll_5 : decode cX3_addAll 5 = .ok (.iconst 0, 1) := by decide +kernel
theorem dX3_addAll_6 : decode cX3_addAll 6 = .ok (.istore_n 3, 1) := by decide +kernel
theorem dX3_addAll_7 : decode cX3_addAll 7 = .ok (.iload_n 3, 1) := by decide +kernel
theorem dX3_addAll_8 : decode cX3_addAll 8 = .ok (.iload_n 2, 1) := by decide +kernel
theorem dX3_addAll_9 : decode cX3_addAll 9 = .ok (.if_icmp .ge 45, 3) := by decide +kernel
theorem dX3_addAll_12 : decode cX3_addAll 12 = .ok (.aload_n 0, 1) := by decide +kernel
theorem dX3_addAll_13 : decode cX3_addAll 13 = .ok (.aload_n 1, 1) := by decide +kernel
theorem dX3_addAll_14 : decode cX3_addAll 14 = .ok (.getfield 9, 3) := by decide +kernel
theorem dX3_addAll_17 : decode cX3_addAll 17 = .ok (.iload_n 3, 1) := by decide +kernel
theorem dX3_addAll_18 : decode cX3_addAll 18 = .ok (.invokestatic 31, 3) := by decide +kernel
theorem dX3_addAll_21 : decode cX3_addAll 21 = .ok (.aload_n 1, 1) := by decide +kernel
theorem dX3_addAll_22 : decode cX3_addAll 22 = .ok (.getfield 15, 3) := by decide +kernel
theorem dX3_addAll_25 : decode cX3_addAll 25 = .ok (.iload_n 3, 1) := by decide +kernel
theorem dX3_addAll_26 : decode cX3_addAll 26 = .ok (.invokestatic 31, 3) := by decide +kernel
theorem dX3_addAll_29 : decode cX3_addAll 29 = .ok (.aload_n 1, 1) := by decide +kernel
theorem dX3_addAll_30 : decode cX3_addAll 30 = .ok (.getfield 18, 3) := by decide +kernel
theorem dX3_addAll_33 : decode cX3_addAll 33 = .ok (.iload_n 3, 1) := by decide +kernel
theorem dX3_addAll_34 : decode cX3_addAll 34 = .ok (.invokestatic 31, 3) := by decide +kernel
theorem dX3_addAll_37 : decode cX3_addAll 37 = .ok (.aload_n 1, 1) := by decide +kernel
theorem dX3_addAll_38 : decode cX3_addAll 38 = .ok (.getfield 21, 3) := by decide +kernel
theorem dX3_addAll_41 : decode cX3_addAll 41 = .ok (.iload_n 3, 1) := by decide +kernel
theorem dX3_addAll_42 : decode cX3_addAll 42 = .ok (.invokestatic 31, 3) := by decide +kernel
theorem dX3_addAll_45 : decode cX3_addAll 45 = .ok (.invokevirtual 35, 3) := by decide +kernel
theorem dX3_addAll_48 : decode cX3_addAll 48 = .ok (.iinc 3 1, 3) := by decide +kernel
theorem dX3_addAll_51 : decode cX3_addAll 51 = .ok (.goto (-44), 3) := by decide +kernel
theorem dX3_addAll_54 : decode cX3_addAll 54 = .ok (.return_, 1) := by decide +kernel
set_option maxRecDepth 20000 in
theorem ggX3_add_X3_placeFor : GoodIn wsX3_add wsX3_placeFor := goodIn_r _ [15, 2, 16, 17, 18, 14, 19, 10, 8, 20, 21, 22, 29, 30, 31, 32, 33, 34] (by decide +kernel) (by decide +kernel)
set_option maxRecDepth 20000 in
theorem gX3_add_X3_placeFor : GoodIn wsX3_add (wsV RX3 39 RX3 yX3_placeFor wsX3_placeFor) := goodIn_app (goodIn_of _ (by decide +kernel)) ggX3_add_X3_placeFor
set_option maxRecDepth 20000 in
theorem ggX3_add_X6_insert : GoodIn wsX3_add wsX6_insert := goodIn_r _ [24, 25, 20, 21, 22, 26, 27, 28] (by decide +kernel) (by decide +kernel)
set_option maxRecDepth 20000 in
theorem gX3_add_X6_insert_n48 : GoodIn wsX3_add (wsX6_insert) := ggX3_add_X6_insert
theorem dX3_add_0 : decode cX3_add 0 = .ok (.aload_n 0, 1) := by decide +kernel
theorem dX3_add_1 : decode cX3_add 1 = .ok (.iload_n 2, 1) := by decide +kernel
theorem dX3_add_2 : decode cX3_add 2 = .ok (.iload 4, 2) := by decide +kernel
theorem dX3_add_4 : decode cX3_add 4 = .ok (.invokevirtual 39, 3) := by decide +kernel
theorem dX3_add_7 : decode cX3_add 7 = .ok (.istore 5, 2) := by decide +kernel
theorem dX3_add_9 : decode cX3_add 9 = .ok (.iload 5, 2) := by decide +kernel
theorem dX3_add_11 : decode cX3_add 11 = .ok (.aload_n 0, 1) := by decide +kernel
theorem dX3_add_12 : decode cX3_add 12 = .ok (.getfield 24, 3) := by decide +kernel
theorem dX3_add_15 : decode cX3_add 15 = .ok (.if_icmp .le 4, 3) := by decide +kernel
theorem dX3_add_18 : decode cX3_add 18 = .ok (.return_, 1) := by decide +kernel
theorem dX3_add_19 : decode cX3_add 19 = .ok (.aload_n 0, 1) := by decide +kernel
theorem dX3_add_20 : decode cX3_add 20 = .ok (.aload_n 0, 1) := by decide +kernel
theorem dX3_add_21 : decode cX3_add 21 = .ok (.getfield 28, 3) := by decide +kernel
theorem dX3_add_24 : decode cX3_add 24 = .ok (.iconst 1, 1) := by decide +kernel
theorem dX3_add_25 : decode cX3_add 25 = .ok (.iadd, 1) := by decide +kernel
theorem dX3_add_26 : decode cX3_add 26 = .ok (.aload_n 0, 1) := by decide +kernel
theorem dX3_add_27 : decode cX3_add 27 = .ok (.getfield 24, 3) := by decide +kernel
theorem dX3_add_30 : decode cX3_add 30 = .ok (.iconst 1, 1) := by decide +kernel
theorem dX3_add_31 : decode cX3_add 31 = .ok (.iadd, 1) := by decide +kernel
theorem dX3_add_32 : decode cX3_add 32 = .ok (.invokestatic 43, 3) := by decide +kernel
theorem dX3_add_35 : decode cX3_add 35 = .ok (.putfield 28, 3) := by decide +kernel
theorem dX3_add_38 : decode cX3_add 38 = .ok (.aload_n 0, 1) := by decide +kernel
theorem dX3_add_39 : decode cX3_add 39 = .ok (.getfield 9, 3) := by decide +kernel
theorem dX3_add_42 : decode cX3_add 42 = .ok (.iload 5, 2) := by decide +kernel
theorem dX3_add_44 : decode cX3_add 44 = .ok (.aload_n 0, 1) := by decide +kernel
theorem dX3_add_45 : decode cX3_add 45 = .ok (.getfield 28, 3) := by decide +kernel
theorem dX3_add_48 : decode cX3_add 48 = .ok (.iload_n 1, 1) := by decide +kernel
theorem dX3_add_49 : decode cX3_add 49 = .ok (.invokestatic 48, 3) := by decide +kernel
theorem dX3_add_52 : decode cX3_add 52 = .ok (.aload_n 0, 1) := by decide +kernel
theorem dX3_add_53 : decode cX3_add 53 = .ok (.getfield 15, 3) := by decide +kernel
theorem dX3_add_56 : decode cX3_add 56 = .ok (.iload 5, 2) := by decide +kernel
theorem dX3_add_58 : decode cX3_add 58 = .ok (.aload_n 0, 1) := by decide +kernel
theorem dX3_add_59 : decode cX3_add 59 = .ok (.getfield 28, 3) := by decide +kernel
theorem dX3_add_62 : decode cX3_add 62 = .ok (.iload_n 2, 1) := by decide +kernel
theorem dX3_add_63 : decode cX3_add 63 = .ok (.invokestatic 48, 3) := by decide +kernel
theorem dX3_add_66 : decode cX3_add 66 = .ok (.aload_n 0, 1) := by decide +kernel
theorem dX3_add_67 : decode cX3_add 67 = .ok (.getfield 18, 3) := by decide +kernel
theorem dX3_add_70 : decode cX3_add 70 = .ok (.iload 5, 2) := by decide +kernel
theorem dX3_add_72 : decode cX3_add 72 = .ok (.aload_n 0, 1) := by decide +kernel
theorem dX3_add_73 : decode cX3_add 73 = .ok (.getfield 28, 3) := by decide +kernel
theorem dX3_add_76 : decode cX3_add 76 = .ok (.iload_n 3, 1) := by decide +kernel
theorem dX3_add_77 : decode cX3_add 77 = .ok (.invokestatic 48, 3) := by decide +kernel
theorem dX3_add_80 : decode cX3_add 80 = .ok (.aload_n 0, 1) := by decide +kernel
theorem dX3_add_81 : decode cX3_add 81 = .ok (.getfield 21, 3) := by decide +kernel
theorem dX3_add_84 : decode cX3_add 84 = .ok (.iload 5, 2) := by decide +kernel
theorem dX3_add_86 : decode cX3_add 86 = .ok (.aload_n 0, 1) := by decide +kernel
theorem dX3_add_87 : decode cX3_add 87 = .ok (.getfield 28, 3) := by decide +kernel
theorem dX3_add_90 : decode cX3_add 90 = .ok (.iload 4, 2) := by decide +kernel
theorem dX3_add_92 : decode cX3_add 92 = .ok (.invokestatic 48, 3) := by decide +kernel
theorem dX3_add_95 : decode cX3_add 95 = .ok (.return_, 1) := by decide +kernel
set_option maxRecDepth 20000 in
theorem ggX3_placeFor_X3_isGreater : GoodIn wsX3_placeFor wsX3_isGreater := goodIn_r _ [6, 7, 8, 9, 10, 11, 12, 13, 14, 15, 16, 17] (by decide +kernel) (by decide +kernel)
set_option maxRecDepth 20000 in
theorem gX3_placeFor_X3_isGreater : GoodIn wsX3_placeFor (wsV RX3 52 RX3 yX3_isGreater wsX3_isGreater) := goodIn_app (goodIn_of _ (by decide +kernel)) ggX3_placeFor_X3_isGreater
theorem dX3_placeFor_0 : decode cX3_placeFor 0 = .ok (.aload_n 0, 1) := by decide +kernel
theorem dX3_placeFor_1 : decode cX3_placeFor 1 = .ok (.getfield 28, 3) := by decide +kernel
theorem dX3_placeFor_4 : decode cX3_placeFor 4 = .ok (.istore_n 3, 1) := by decide +kernel
theorem dX3_placeFor_5 : decode cX3_placeFor 5 = .ok (.iload_n 3, 1) := by decide +kernel
theorem dX3_placeFor_6 : decode cX3_placeFor 6 = .ok (.ifCond .le 21, 3) := by decide +kernel
theorem dX3_placeFor_9 : decode cX3_placeFor 9 = .ok (.aload_n 0, 1) := by decide +kernel
theorem dX3_placeFor_10 : decode cX3_placeFor 10 = .ok (.iload_n 1, 1) := by decide +kernel
theorem dX3_placeFor_11 : decode cX3_placeFor 11 = .ok (.iload_n 2, 1) := by decide +kernel
theorem dX3_placeFor_12 : decode cX3_placeFor 12 = .ok (.iload_n 3, 1) := by decide +kernel
theorem dX3_placeFor_13 : decode cX3_placeFor 13 = .ok (.iconst 1, 1) := by decide +kernel
theorem dX3_placeFor_14 : decode cX3_placeFor 14 = .ok (.isub, 1) := by decide +kernel
theorem dX3_placeFor_15 : decode cX3_placeFor 15 = .ok (.invokevirtual 52, 3) := by decide +kernel
theorem dX3_placeFor_18 : decode cX3_placeFor 18 = .ok (.ifCond .eq 9, 3) := by decide +kernel
theorem dX3_placeFor_21 : decode cX3_placeFor 21 = .ok (.iinc 3 (-1), 3) := by decide +kernel
theorem dX3_placeFor_24 : decode cX3_placeFor 24 = .ok (.goto (-19), 3) := by decide +kernel
theorem dX3_placeFor_27 : decode cX3_placeFor 27 = .ok (.iload_n 3, 1) := by decide +kernel
theorem dX3_placeFor_28 : decode cX3_placeFor 28 = .ok (.ireturn, 1) := by decide +kernel
set_option maxRecDepth 20000 in
theorem ggX3_isGreater_X6_at : GoodIn wsX3_isGreater wsX6_at := goodIn_r _ [5] (by decide +kernel) (by decide +kernel)
set_option maxRecDepth 20000 in
theorem gX3_isGreater_X6_at_n31 : GoodIn wsX3_isGreater (wsX6_at) := ggX3_isGreater_X6_at
theorem dX3_isGreater_0 : decode cX3_isGreater 0 = .ok (.iload_n 1, 1) := by decide +kernel
theorem dX3_isGreater_1 : decode cX3_isGreater 1 = .ok (.i2l, 1) := by decide +kernel
theorem dX3_isGreater_2 : decode cX3_isGreater 2 = .ok (.aload_n 0, 1) := by decide +kernel
theorem dX3_isGreater_3 : decode cX3_isGreater 3 = .ok (.getfield 21, 3) := by decide +kernel
theorem dX3_isGreater_6 : decode cX3_isGreater 6 = .ok (.iload_n 3, 1) := by decide +kernel
theorem dX3_isGreater_7 : decode cX3_isGreater 7 = .ok (.invokestatic 31, 3) := by decide +kernel
theorem dX3_isGreater_10 : decode cX3_isGreater 10 = .ok (.i2l, 1) := by decide +kernel
theorem dX3_isGreater_11 : decode cX3_isGreater 11 = .ok (.lconst 1, 1) := by decide +kernel
theorem dX3_isGreater_12 : decode cX3_isGreater 12 = .ok (.ladd, 1) := by decide +kernel
theorem dX3_isGreater_13 : decode cX3_isGreater 13 = .ok (.lmul, 1) := by decide +kernel
theorem dX3_isGreater_14 : decode cX3_isGreater 14 = .ok (.aload_n 0, 1) := by decide +kernel
theorem dX3_isGreater_15 : decode cX3_isGreater 15 = .ok (.getfield 15, 3) := by decide +kernel
theorem dX3_isGreater_18 : decode cX3_isGreater 18 = .ok (.iload_n 3, 1) := by decide +kernel
theorem dX3_isGreater_19 : decode cX3_isGreater 19 = .ok (.invokestatic 31, 3) := by decide +kernel
theorem dX3_isGreater_22 : decode cX3_isGreater 22 = .ok (.i2l, 1) := by decide +kernel
theorem dX3_isGreater_23 : decode cX3_isGreater 23 = .ok (.iload_n 2, 1) := by decide +kernel
theorem dX3_isGreater_24 : decode cX3_isGreater 24 = .ok (.i2l, 1) := by decide +kernel
theorem dX3_isGreater_25 : decode cX3_isGreater 25 = .ok (.lconst 1, 1) := by decide +kernel
theorem dX3_isGreater_26 : decode cX3_isGreater 26 = .ok (.ladd, 1) := by decide +kernel
theorem dX3_isGreater_27 : decode cX3_isGreater 27 = .ok (.lmul, 1) := by decide +kernel
theorem dX3_isGreater_28 : decode cX3_isGreater 28 = .ok (.lcmp, 1) := by decide +kernel
theorem dX3_isGreater_29 : decode cX3_isGreater 29 = .ok (.ifCond .le 7, 3) := by decide +kernel
theorem dX3_isGreater_32 : decode cX3_isGreater 32 = .ok (.iconst 1, 1) := by decide +kernel
theorem dX3_isGreater_33 : decode cX3_isGreater 33 = .ok (.goto 4, 3) := by decide +kernel
theorem dX3_isGreater_36 : decode cX3_isGreater 36 = .ok (.iconst 0, 1) := by decide +kernel
theorem dX3_isGreater_37 : decode cX3_isGreater 37 = .ok (.ireturn, 1) := by decide +kernel
theorem dX3_sampled_0 : decode cX3_sampled 0 = .ok (.aload_n 0, 1) := by decide +kernel
theorem dX3_sampled_1 : decode cX3_sampled 1 = .ok (.getfield 28, 3) := by decide +kernel
theorem dX3_sampled_4 : decode cX3_sampled 4 = .ok (.aload_n 0, 1) := by decide +kernel
theorem dX3_sampled_5 : decode cX3_sampled 5 = .ok (.getfield 24, 3) := by decide +kernel
theorem dX3_sampled_8 : decode cX3_sampled 8 = .ok (.invokestatic 43, 3) := by decide +kernel
theorem dX3_sampled_11 : decode cX3_sampled 11 = .ok (.ireturn, 1) := by decide +kernel
set_option maxRecDepth 20000 in
theorem ggX3_bound_X6_at : GoodIn wsX3_bound wsX6_at := goodIn_r _ [7] (by decide +kernel) (by decide +kernel)
set_option maxRecDepth 20000 in
theorem gX3_bound_X6_at_n31 : GoodIn wsX3_bound (wsX6_at) := ggX3_bound_X6_at
set_option maxRecDepth 20000 in
theorem ggX3_bound_X6_quotient : GoodIn wsX3_bound wsX6_quotient := goodIn_r _ [9] (by decide +kernel) (by decide +kernel)
set_option maxRecDepth 20000 in
theorem gX3_bound_X6_quotient_n56 : GoodIn wsX3_bound (wsX6_quotient) := ggX3_bound_X6_quotient
theorem dX3_bound_0 : decode cX3_bound 0 = .ok (.aload_n 0, 1) := by decide +kernel
theorem dX3_bound_1 : decode cX3_bound 1 = .ok (.getfield 28, 3) := by decide +kernel
theorem dX3_bound_4 : decode cX3_bound 4 = .ok (.aload_n 0, 1) := by decide +kernel
theorem dX3_bound_5 : decode cX3_bound 5 = .ok (.getfield 24, 3) := by decide +kernel
theorem dX3_bound_8 : decode cX3_bound 8 = .ok (.if_icmp .gt 5, 3) := by decide +kernel
theorem dX3_bound_11 : decode cX3_bound 11 = .ok (.lconst 0, 1) := by decide +kernel
theorem dX3_bound_12 : decode cX3_bound 12 = .ok (.lreturn, 1) := by decide +kernel
theorem dX3_bound_13 : decode cX3_bound 13 = .ok (.aload_n 0, 1) := by decide +kernel
theorem dX3_bound_14 : decode cX3_bound 14 = .ok (.getfield 15, 3) := by decide +kernel
theorem dX3_bound_17 : decode cX3_bound 17 = .ok (.aload_n 0, 1) := by decide +kernel
theorem dX3_bound_18 : decode cX3_bound 18 = .ok (.getfield 24, 3) := by decide +kernel
theorem dX3_bound_21 : decode cX3_bound 21 = .ok (.invokestatic 31, 3) := by decide +kernel
theorem dX3_bound_24 : decode cX3_bound 24 = .ok (.i2l, 1) := by decide +kernel
theorem dX3_bound_25 : decode cX3_bound 25 = .ok (.lstore_n 1, 1) := by decide +kernel
theorem dX3_bound_26 : decode cX3_bound 26 = .ok (.lload_n 1, 1) := by decide +kernel
theorem dX3_bound_27 : decode cX3_bound 27 = .ok (.bipush 31, 2) := by decide +kernel
theorem dX3_bound_29 : decode cX3_bound 29 = .ok (.lshl, 1) := by decide +kernel
theorem dX3_bound_30 : decode cX3_bound 30 = .ok (.aload_n 0, 1) := by decide +kernel
theorem dX3_bound_31 : decode cX3_bound 31 = .ok (.getfield 21, 3) := by decide +kernel
theorem dX3_bound_34 : decode cX3_bound 34 = .ok (.aload_n 0, 1) := by decide +kernel
theorem dX3_bound_35 : decode cX3_bound 35 = .ok (.getfield 24, 3) := by decide +kernel
theorem dX3_bound_38 : decode cX3_bound 38 = .ok (.invokestatic 31, 3) := by decide +kernel
theorem dX3_bound_41 : decode cX3_bound 41 = .ok (.i2l, 1) := by decide +kernel
theorem dX3_bound_42 : decode cX3_bound 42 = .ok (.lconst 1, 1) := by decide +kernel
theorem dX3_bound_43 : decode cX3_bound 43 = .ok (.ladd, 1) := by decide +kernel
theorem dX3_bound_44 : decode cX3_bound 44 = .ok (.invokestatic 56, 3) := by decide +kernel
theorem dX3_bound_47 : decode cX3_bound 47 = .ok (.lreturn, 1) := by decide +kernel
set_option maxRecDepth 20000 in
theorem ggX3_estimateAt_X6_at : GoodIn wsX3_estimateAt wsX6_at := goodIn_r _ [8] (by decide +kernel) (by decide +kernel)
set_option maxRecDepth 20000 in
theorem gX3_estimateAt_X6_at_n31 : GoodIn wsX3_estimateAt (wsX6_at) := ggX3_estimateAt_X6_at
set_option maxRecDepth 20000 in
theorem ggX3_estimateAt_X3_bound : GoodIn wsX3_estimateAt wsX3_bound := goodIn_r _ [13, 14, 15, 1, 16, 6, 7, 8, 17, 18, 19, 20, 21, 22, 23, 24] (by decide +kernel) (by decide +kernel)
set_option maxRecDepth 20000 in
theorem gX3_estimateAt_X3_bound : GoodIn wsX3_estimateAt (wsV RX3 60 RX3 yX3_bound wsX3_bound) := goodIn_app (goodIn_of _ (by decide +kernel)) ggX3_estimateAt_X3_bound
theorem dX3_estimateAt_0 : decode cX3_estimateAt 0 = .ok (.aload_n 0, 1) := by decide +kernel
theorem dX3_estimateAt_1 : decode cX3_estimateAt 1 = .ok (.getfield 15, 3) := by decide +kernel
theorem dX3_estimateAt_4 : decode cX3_estimateAt 4 = .ok (.iload_n 1, 1) := by decide +kernel
theorem dX3_estimateAt_5 : decode cX3_estimateAt 5 = .ok (.invokestatic 31, 3) := by decide +kernel
theorem dX3_estimateAt_8 : decode cX3_estimateAt 8 = .ok (.i2l, 1) := by decide +kernel
theorem dX3_estimateAt_9 : decode cX3_estimateAt 9 = .ok (.aload_n 0, 1) := by decide +kernel
theorem dX3_estimateAt_10 : decode cX3_estimateAt 10 = .ok (.invokevirtual 60, 3) := by decide +kernel
theorem dX3_estimateAt_13 : decode cX3_estimateAt 13 = .ok (.invokestatic 64, 3) := by decide +kernel
theorem dX3_estimateAt_16 : decode cX3_estimateAt 16 = .ok (.lreturn, 1) := by decide +kernel
set_option maxRecDepth 20000 in
theorem ggX3_estimatedSum_X3_sampled : GoodIn wsX3_estimatedSum wsX3_sampled := goodIn_r _ [6, 7, 8, 9, 10, 11, 12, 31, 32, 33, 34, 35, 36] (by decide +kernel) (by decide +kernel)
set_option maxRecDepth 20000 in
theorem gX3_estimatedSum_X3_sampled : GoodIn wsX3_estimatedSum (wsV RX3 67 RX3 yX3_sampled wsX3_sampled) := goodIn_app (goodIn_of _ (by decide +kernel)) ggX3_estimatedSum_X3_sampled
set_option maxRecDepth 20000 in
theorem ggX3_estimatedSum_X6_at : GoodIn wsX3_estimatedSum wsX6_at := goodIn_r _ [15] (by decide +kernel) (by decide +kernel)
set_option maxRecDepth 20000 in
theorem gX3_estimatedSum_X6_at_n31 : GoodIn wsX3_estimatedSum (wsX6_at) := ggX3_estimatedSum_X6_at
set_option maxRecDepth 20000 in
theorem ggX3_estimatedSum_X3_estimateAt : GoodIn wsX3_estimatedSum wsX3_estimateAt := goodIn_r _ [19, 20, 21, 22, 11, 23, 13, 14, 15, 24, 25, 26, 5, 27, 7, 8, 28, 29, 30, 31, 32, 33, 34, 35, 36] (by decide +kernel) (by decide +kernel)
set_option maxRecDepth 20000 in
theorem gX3_estimatedSum_X3_estimateAt : GoodIn wsX3_estimatedSum (wsV RX3 71 RX3 yX3_estimateAt wsX3_estimateAt) := goodIn_app (goodIn_of _ (by decide +kernel)) ggX3_estimatedSum_X3_estimateAt
theorem dX3_estimatedSum_0 : decode cX3_estimatedSum 0 = .ok (.lconst 0, 1) := by decide +kernel
theorem dX3_estimatedSum_1 : decode cX3_estimatedSum 1 = .ok (.lstore_n 2, 1) := by decide +kernel
theorem dX3_estimatedSum_2 : decode cX3_estimatedSum 2 = .ok (.aload_n 0, 1) := by decide +kernel
theorem dX3_estimatedSum_3 : decode cX3_estimatedSum 3 = .ok (.invokevirtual 67, 3) := by decide +kernel
theorem dX3_estimatedSum_6 : decode cX3_estimatedSum 6 = .ok (.istore 4, 2) := by decide +kernel
theorem dX3_estimatedSum_8 : decode cX3_estimatedSum 8 = .ok (.iconst 0, 1) := by decide +kernel
theorem dX3_estimatedSum_9 : decode cX3_estimatedSum 9 = .ok (.istore 5, 2) := by decide +kernel
theorem dX3_estimatedSum_11 : decode cX3_estimatedSum 11 = .ok (.iload 5, 2) := by decide +kernel
theorem dX3_estimatedSum_13 : decode cX3_estimatedSum 13 = .ok (.iload 4, 2) := by decide +kernel
theorem dX3_estimatedSum_15 : decode cX3_estimatedSum 15 = .ok (.if_icmp .ge 31, 3) := by decide +kernel
theorem dX3_estimatedSum_18 : decode cX3_estimatedSum 18 = .ok (.aload_n 0, 1) := by decide +kernel
theorem dX3_estimatedSum_19 : decode cX3_estimatedSum 19 = .ok (.getfield 18, 3) := by decide +kernel
theorem dX3_estimatedSum_22 : decode cX3_estimatedSum 22 = .ok (.iload 5, 2) := by decide +kernel
theorem dX3_estimatedSum_24 : decode cX3_estimatedSum 24 = .ok (.invokestatic 31, 3) := by decide +kernel
theorem dX3_estimatedSum_27 : decode cX3_estimatedSum 27 = .ok (.iload_n 1, 1) := by decide +kernel
theorem dX3_estimatedSum_28 : decode cX3_estimatedSum 28 = .ok (.if_icmp .ne 12, 3) := by decide +kernel
theorem dX3_estimatedSum_31 : decode cX3_estimatedSum 31 = .ok (.lload_n 2, 1) := by decide +kernel
theorem dX3_estimatedSum_32 : decode cX3_estimatedSum 32 = .ok (.aload_n 0, 1) := by decide +kernel
theorem dX3_estimatedSum_33 : decode cX3_estimatedSum 33 = .ok (.iload 5, 2) := by decide +kernel
theorem dX3_estimatedSum_35 : decode cX3_estimatedSum 35 = .ok (.invokevirtual 71, 3) := by decide +kernel
theorem dX3_estimatedSum_38 : decode cX3_estimatedSum 38 = .ok (.ladd, 1) := by decide +kernel
theorem dX3_estimatedSum_39 : decode cX3_estimatedSum 39 = .ok (.lstore_n 2, 1) := by decide +kernel
theorem dX3_estimatedSum_40 : decode cX3_estimatedSum 40 = .ok (.iinc 5 1, 3) := by decide +kernel
theorem dX3_estimatedSum_43 : decode cX3_estimatedSum 43 = .ok (.goto (-32), 3) := by decide +kernel
theorem dX3_estimatedSum_46 : decode cX3_estimatedSum 46 = .ok (.lload_n 2, 1) := by decide +kernel
theorem dX3_estimatedSum_47 : decode cX3_estimatedSum 47 = .ok (.lreturn, 1) := by decide +kernel
set_option maxRecDepth 20000 in
theorem ggX3_weightSum_X3_sampled : GoodIn wsX3_weightSum wsX3_sampled := goodIn_r _ [7, 8, 9, 10, 11, 12, 13, 17, 18, 19, 20, 21, 22] (by decide +kernel) (by decide +kernel)
set_option maxRecDepth 20000 in
theorem gX3_weightSum_X3_sampled : GoodIn wsX3_weightSum (wsV RX3 67 RX3 yX3_sampled wsX3_sampled) := goodIn_app (goodIn_of _ (by decide +kernel)) ggX3_weightSum_X3_sampled
set_option maxRecDepth 20000 in
theorem ggX3_weightSum_X6_at : GoodIn wsX3_weightSum wsX6_at := goodIn_r _ [16] (by decide +kernel) (by decide +kernel)
set_option maxRecDepth 20000 in
theorem gX3_weightSum_X6_at_n31 : GoodIn wsX3_weightSum (wsX6_at) := ggX3_weightSum_X6_at
theorem dX3_weightSum_0 : decode cX3_weightSum 0 = .ok (.iconst 0, 1) := by decide +kernel
theorem dX3_weightSum_1 : decode cX3_weightSum 1 = .ok (.istore_n 2, 1) := by decide +kernel
theorem dX3_weightSum_2 : decode cX3_weightSum 2 = .ok (.aload_n 0, 1) := by decide +kernel
theorem dX3_weightSum_3 : decode cX3_weightSum 3 = .ok (.invokevirtual 67, 3) := by decide +kernel
theorem dX3_weightSum_6 : decode cX3_weightSum 6 = .ok (.istore_n 3, 1) := by decide +kernel
theorem dX3_weightSum_7 : decode cX3_weightSum 7 = .ok (.iconst 0, 1) := by decide +kernel
theorem dX3_weightSum_8 : decode cX3_weightSum 8 = .ok (.istore 4, 2) := by decide +kernel
theorem dX3_weightSum_10 : decode cX3_weightSum 10 = .ok (.iload 4, 2) := by decide +kernel
theorem dX3_weightSum_12 : decode cX3_weightSum 12 = .ok (.iload_n 3, 1) := by decide +kernel
theorem dX3_weightSum_13 : decode cX3_weightSum 13 = .ok (.if_icmp .ge 34, 3) := by decide +kernel
theorem dX3_weightSum_16 : decode cX3_weightSum 16 = .ok (.aload_n 0, 1) := by decide +kernel
theorem dX3_weightSum_17 : decode cX3_weightSum 17 = .ok (.getfield 18, 3) := by decide +kernel
theorem dX3_weightSum_20 : decode cX3_weightSum 20 = .ok (.iload 4, 2) := by decide +kernel
theorem dX3_weightSum_22 : decode cX3_weightSum 22 = .ok (.invokestatic 31, 3) := by decide +kernel
theorem dX3_weightSum_25 : decode cX3_weightSum 25 = .ok (.iload_n 1, 1) := by decide +kernel
theorem dX3_weightSum_26 : decode cX3_weightSum 26 = .ok (.if_icmp .ne 15, 3) := by decide +kernel
theorem dX3_weightSum_29 : decode cX3_weightSum 29 = .ok (.iload_n 2, 1) := by decide +kernel
theorem dX3_weightSum_30 : decode cX3_weightSum 30 = .ok (.aload_n 0, 1) := by decide +kernel
theorem dX3_weightSum_31 : decode cX3_weightSum 31 = .ok (.getfield 15, 3) := by decide +kernel
theorem dX3_weightSum_34 : decode cX3_weightSum 34 = .ok (.iload 4, 2) := by decide +kernel
theorem dX3_weightSum_36 : decode cX3_weightSum 36 = .ok (.invokestatic 31, 3) := by decide +kernel
theorem dX3_weightSum_39 : decode cX3_weightSum 39 = .ok (.iadd, 1) := by decide +kernel
theorem dX3_weightSum_40 : decode cX3_weightSum 40 = .ok (.istore_n 2, 1) := by decide +kernel
theorem dX3_weightSum_41 : decode cX3_weightSum 41 = .ok (.iinc 4 1, 3) := by decide +kernel
theorem dX3_weightSum_44 : decode cX3_weightSum 44 = .ok (.goto (-34), 3) := by decide +kernel
theorem dX3_weightSum_47 : decode cX3_weightSum 47 = .ok (.iload_n 2, 1) := by decide +kernel
theorem dX3_weightSum_48 : decode cX3_weightSum 48 = .ok (.ireturn, 1) := by decide +kernel
theorem dX4_init_0 : decode cX4_init 0 = .ok (.aload_n 0, 1) := by decide +kernel
theorem dX4_init_1 : decode cX4_init 1 = .ok (.invokespecial 3, 3) := by decide +kernel
theorem dX4_init_4 : decode cX4_init 4 = .ok (.aload_n 0, 1) := by decide +kernel
theorem dX4_init_5 : decode cX4_init 5 = .ok (.bipush 16, 2) := by decide +kernel
theorem dX4_init_7 : decode cX4_init 7 = .ok (.newarray .int, 2) := by decide +kernel
theorem dX4_init_9 : decode cX4_init 9 = .ok (.putfield 9, 3) := by decide +kernel
theorem dX4_init_12 : decode cX4_init 12 = .ok (.aload_n 0, 1) := by decide +kernel
theorem dX4_init_13 : decode cX4_init 13 = .ok (.bipush 16, 2) := by decide +kernel
theorem dX4_init_15 : decode cX4_init 15 = .ok (.newarray .int, 2) := by decide +kernel
theorem dX4_init_17 : decode cX4_init 17 = .ok (.putfield 15, 3) := by decide +kernel
theorem dX4_init_20 : decode cX4_init 20 = .ok (.return_, 1) := by decide +kernel
theorem dX4_startAgain_0 : decode cX4_startAgain 0 = .ok (.aload_n 0, 1) := by decide +kernel
theorem dX4_startAgain_1 : decode cX4_startAgain 1 = .ok (.iload_n 1, 1) := by decide +kernel
theorem dX4_startAgain_2 : decode cX4_startAgain 2 = .ok (.putfield 18, 3) := by decide +kernel
end
section
theorem dX4_startAgain_5 : decode cX4_startAgain 5 = .ok (.aload_n 0, 1) := by decide +kernel
theorem dX4_startAgain_6 : decode cX4_startAgain 6 = .ok (.iconst 0, 1) := by decide +kernel
theorem dX4_startAgain_7 : decode cX4_startAgain 7 = .ok (.putfield 22, 3) := by decide +kernel
theorem dX4_startAgain_10 : decode cX4_startAgain 10 = .ok (.return_, 1) := by decide +kernel
set_option maxRecDepth 20000 in
theorem ggX4_give_X6_remainder : GoodIn wsX4_give wsX6_remainder := goodIn_r _ [7] (by decide +kernel) (by decide +kernel)
set_option maxRecDepth 20000 in
theorem gX4_give_X6_remainder_n25 : GoodIn wsX4_give (wsX6_remainder) := ggX4_give_X6_remainder
set_option maxRecDepth 20000 in
theorem ggX4_give_X6_put : GoodIn wsX4_give wsX6_put := goodIn_r _ [9] (by decide +kernel) (by decide +kernel)
set_option maxRecDepth 20000 in
theorem gX4_give_X6_put_n29 : GoodIn wsX4_give (wsX6_put) := ggX4_give_X6_put
theorem dX4_give_0 : decode cX4_give 0 = .ok (.aload_n 0, 1) := by decide +kernel
theorem dX4_give_1 : decode cX4_give 1 = .ok (.dup, 1) := by decide +kernel
theorem dX4_give_2 : decode cX4_give 2 = .ok (.getfield 22, 3) := by decide +kernel
theorem dX4_give_5 : decode cX4_give 5 = .ok (.iconst 1, 1) := by decide +kernel
theorem dX4_give_6 : decode cX4_give 6 = .ok (.iadd, 1) := by decide +kernel
theorem dX4_give_7 : decode cX4_give 7 = .ok (.putfield 22, 3) := by decide +kernel
theorem dX4_give_10 : decode cX4_give 10 = .ok (.aload_n 0, 1) := by decide +kernel
theorem dX4_give_11 : decode cX4_give 11 = .ok (.getfield 22, 3) := by decide +kernel
theorem dX4_give_14 : decode cX4_give 14 = .ok (.aload_n 0, 1) := by decide +kernel
theorem dX4_give_15 : decode cX4_give 15 = .ok (.getfield 18, 3) := by decide +kernel
theorem dX4_give_18 : decode cX4_give 18 = .ok (.if_icmp .gt 12, 3) := by decide +kernel
theorem dX4_give_21 : decode cX4_give 21 = .ok (.aload_n 0, 1) := by decide +kernel
theorem dX4_give_22 : decode cX4_give 22 = .ok (.getfield 22, 3) := by decide +kernel
theorem dX4_give_25 : decode cX4_give 25 = .ok (.iconst 1, 1) := by decide +kernel
theorem dX4_give_26 : decode cX4_give 26 = .ok (.isub, 1) := by decide +kernel
theorem dX4_give_27 : decode cX4_give 27 = .ok (.goto 11, 3) := by decide +kernel
theorem dX4_give_30 : decode cX4_give 30 = .ok (.iload_n 3, 1) := by decide +kernel
theorem dX4_give_31 : decode cX4_give 31 = .ok (.aload_n 0, 1) := by decide +kernel
theorem dX4_give_32 : decode cX4_give 32 = .ok (.getfield 22, 3) := by decide +kernel
theorem dX4_give_35 : decode cX4_give 35 = .ok (.invokestatic 25, 3) := by decide +kernel
theorem dX4_give_38 : decode cX4_give 38 = .ok (.istore 4, 2) := by decide +kernel
theorem dX4_give_40 : decode cX4_give 40 = .ok (.iload 4, 2) := by decide +kernel
theorem dX4_give_42 : decode cX4_give 42 = .ok (.aload_n 0, 1) := by decide +kernel
theorem dX4_give_43 : decode cX4_give 43 = .ok (.getfield 18, 3) := by decide +kernel
theorem dX4_give_46 : decode cX4_give 46 = .ok (.if_icmp .ge 23, 3) := by decide +kernel
theorem dX4_give_49 : decode cX4_give 49 = .ok (.aload_n 0, 1) := by decide +kernel
theorem dX4_give_50 : decode cX4_give 50 = .ok (.getfield 9, 3) := by decide +kernel
theorem dX4_give_53 : decode cX4_give 53 = .ok (.iload 4, 2) := by decide +kernel
theorem dX4_give_55 : decode cX4_give 55 = .ok (.iload_n 1, 1) := by decide +kernel
theorem dX4_give_56 : decode cX4_give 56 = .ok (.invokestatic 29, 3) := by decide +kernel
theorem dX4_give_59 : decode cX4_give 59 = .ok (.aload_n 0, 1) := by decide +kernel
theorem dX4_give_60 : decode cX4_give 60 = .ok (.getfield 15, 3) := by decide +kernel
theorem dX4_give_63 : decode cX4_give 63 = .ok (.iload 4, 2) := by decide +kernel
theorem dX4_give_65 : decode cX4_give 65 = .ok (.iload_n 2, 1) := by decide +kernel
theorem dX4_give_66 : decode cX4_give 66 = .ok (.invokestatic 29, 3) := by decide +kernel
theorem dX4_give_69 : decode cX4_give 69 = .ok (.return_, 1) := by decide +kernel
theorem dX4_filled_0 : decode cX4_filled 0 = .ok (.aload_n 0, 1) := by decide +kernel
theorem dX4_filled_1 : decode cX4_filled 1 = .ok (.getfield 22, 3) := by decide +kernel
theorem dX4_filled_4 : decode cX4_filled 4 = .ok (.aload_n 0, 1) := by decide +kernel
theorem dX4_filled_5 : decode cX4_filled 5 = .ok (.getfield 18, 3) := by decide +kernel
theorem dX4_filled_8 : decode cX4_filled 8 = .ok (.invokestatic 33, 3) := by decide +kernel
theorem dX4_filled_11 : decode cX4_filled 11 = .ok (.ireturn, 1) := by decide +kernel
set_option maxRecDepth 20000 in
theorem ggX5_init_X4_init : GoodIn wsX5_init wsX4_init := goodIn_r _ [28, 29, 2, 3, 30, 31, 32, 55, 56, 57, 58] (by decide +kernel) (by decide +kernel)
set_option maxRecDepth 20000 in
theorem gX5_init_X4_init_n9 : GoodIn wsX5_init (wsX4_init) := ggX5_init_X4_init
set_option maxRecDepth 20000 in
theorem ggX5_init_X2_init : GoodIn wsX5_init wsX2_init := goodIn_r _ [34, 35, 2, 3, 36, 5, 6, 37, 27, 28, 29, 30, 31, 32, 55, 56, 57, 58, 70, 71] (by decide +kernel) (by decide +kernel)
set_option maxRecDepth 20000 in
theorem gX5_init_X2_init_n18 : GoodIn wsX5_init (wsX2_init) := ggX5_init_X2_init
set_option maxRecDepth 20000 in
theorem ggX5_init_X3_init : GoodIn wsX5_init wsX3_init := goodIn_r _ [39, 40, 2, 3, 30, 41, 42, 43, 44, 72, 73, 74, 75, 76, 77] (by decide +kernel) (by decide +kernel)
set_option maxRecDepth 20000 in
theorem gX5_init_X3_init_n34 : GoodIn wsX5_init (wsX3_init) := ggX5_init_X3_init
set_option maxRecDepth 20000 in
theorem ggX5_init_X1_init : GoodIn wsX5_init wsX1_init := goodIn_r _ [46, 47, 2, 3, 30, 48, 49, 78, 79, 80, 81] (by decide +kernel) (by decide +kernel)
set_option maxRecDepth 20000 in
theorem gX5_init_X1_init_n41 : GoodIn wsX5_init (wsX1_init) := ggX5_init_X1_init
set_option maxRecDepth 20000 in
theorem ggX5_init_X0_init : GoodIn wsX5_init wsX0_init := goodIn_r _ [51, 52, 2, 3, 30, 53, 54, 82, 83, 84, 85, 86, 87] (by decide +kernel) (by decide +kernel)
set_option maxRecDepth 20000 in
theorem gX5_init_X0_init_n48 : GoodIn wsX5_init (wsX0_init) := ggX5_init_X0_init
theorem dX5_init_0 : decode cX5_init 0 = .ok (.aload_n 0, 1) := by decide +kernel
theorem dX5_init_1 : decode cX5_init 1 = .ok (.invokespecial 1, 3) := by decide +kernel
theorem dX5_init_4 : decode cX5_init 4 = .ok (.aload_n 0, 1) := by decide +kernel
theorem dX5_init_5 : decode cX5_init 5 = .ok (.new 7, 3) := by decide +kernel
theorem dX5_init_8 : decode cX5_init 8 = .ok (.dup, 1) := by decide +kernel
theorem dX5_init_9 : decode cX5_init 9 = .ok (.invokespecial 9, 3) := by decide +kernel
theorem dX5_init_12 : decode cX5_init 12 = .ok (.putfield 10, 3) := by decide +kernel
theorem dX5_init_15 : decode cX5_init 15 = .ok (.aload_n 0, 1) := by decide +kernel
theorem dX5_init_16 : decode cX5_init 16 = .ok (.new 16, 3) := by decide +kernel
theorem dX5_init_19 : decode cX5_init 19 = .ok (.dup, 1) := by decide +kernel
theorem dX5_init_20 : decode cX5_init 20 = .ok (.invokespecial 18, 3) := by decide +kernel
theorem dX5_init_23 : decode cX5_init 23 = .ok (.putfield 19, 3) := by decide +kernel
theorem dX5_init_26 : decode cX5_init 26 = .ok (.aload_n 0, 1) := by decide +kernel
theorem dX5_init_27 : decode cX5_init 27 = .ok (.new 16, 3) := by decide +kernel
theorem dX5_init_30 : decode cX5_init 30 = .ok (.dup, 1) := by decide +kernel
theorem dX5_init_31 : decode cX5_init 31 = .ok (.invokespecial 18, 3) := by decide +kernel
theorem dX5_init_34 : decode cX5_init 34 = .ok (.putfield 23, 3) := by decide +kernel
theorem dX5_init_37 : decode cX5_init 37 = .ok (.aload_n 0, 1) := by decide +kernel
theorem dX5_init_38 : decode cX5_init 38 = .ok (.new 16, 3) := by decide +kernel
theorem dX5_init_41 : decode cX5_init 41 = .ok (.dup, 1) := by decide +kernel
theorem dX5_init_42 : decode cX5_init 42 = .ok (.invokespecial 18, 3) := by decide +kernel
theorem dX5_init_45 : decode cX5_init 45 = .ok (.putfield 26, 3) := by decide +kernel
theorem dX5_init_48 : decode cX5_init 48 = .ok (.aload_n 0, 1) := by decide +kernel
theorem dX5_init_49 : decode cX5_init 49 = .ok (.new 16, 3) := by decide +kernel
theorem dX5_init_52 : decode cX5_init 52 = .ok (.dup, 1) := by decide +kernel
theorem dX5_init_53 : decode cX5_init 53 = .ok (.invokespecial 18, 3) := by decide +kernel
theorem dX5_init_56 : decode cX5_init 56 = .ok (.putfield 29, 3) := by decide +kernel
theorem dX5_init_59 : decode cX5_init 59 = .ok (.aload_n 0, 1) := by decide +kernel
theorem dX5_init_60 : decode cX5_init 60 = .ok (.new 32, 3) := by decide +kernel
theorem dX5_init_63 : decode cX5_init 63 = .ok (.dup, 1) := by decide +kernel
theorem dX5_init_64 : decode cX5_init 64 = .ok (.invokespecial 34, 3) := by decide +kernel
theorem dX5_init_67 : decode cX5_init 67 = .ok (.putfield 35, 3) := by decide +kernel
theorem dX5_init_70 : decode cX5_init 70 = .ok (.aload_n 0, 1) := by decide +kernel
theorem dX5_init_71 : decode cX5_init 71 = .ok (.new 39, 3) := by decide +kernel
theorem dX5_init_74 : decode cX5_init 74 = .ok (.dup, 1) := by decide +kernel
theorem dX5_init_75 : decode cX5_init 75 = .ok (.invokespecial 41, 3) := by decide +kernel
theorem dX5_init_78 : decode cX5_init 78 = .ok (.putfield 42, 3) := by decide +kernel
theorem dX5_init_81 : decode cX5_init 81 = .ok (.aload_n 0, 1) := by decide +kernel
theorem dX5_init_82 : decode cX5_init 82 = .ok (.new 46, 3) := by decide +kernel
theorem dX5_init_85 : decode cX5_init 85 = .ok (.dup, 1) := by decide +kernel
theorem dX5_init_86 : decode cX5_init 86 = .ok (.invokespecial 48, 3) := by decide +kernel
theorem dX5_init_89 : decode cX5_init 89 = .ok (.putfield 49, 3) := by decide +kernel
theorem dX5_init_92 : decode cX5_init 92 = .ok (.return_, 1) := by decide +kernel
set_option maxRecDepth 20000 in
theorem ggX5_startAgain_X5_makeEmpty : GoodIn wsX5_startAgain wsX5_makeEmpty := goodIn_r _ [7, 8, 9, 1, 10, 11, 12, 13, 14, 15, 16, 2, 17, 18, 19, 20, 21, 22, 23, 24, 25, 26, 27, 28, 29, 30, 31, 32, 33, 34, 35, 36, 37, 38, 39, 40, 41, 42, 43, 44, 45, 46, 47, 48, 49, 50, 51, 52, 53, 54, 55, 56, 57, 58, 59, 60, 61, 62, 63, 64, 65, 66, 67, 68, 69, 70, 71, 72, 73, 74, 75, 76, 77, 78, 79, 80, 81, 82, 83, 84, 85, 86, 87] (by decide +kernel) (by decide +kernel)
set_option maxRecDepth 20000 in
theorem gX5_startAgain_X5_makeEmpty : GoodIn wsX5_startAgain (wsV RX5 60 RX5 yX5_makeEmpty wsX5_makeEmpty) := goodIn_app (goodIn_of _ (by decide +kernel)) ggX5_startAgain_X5_makeEmpty
theorem dX5_startAgain_0 : decode cX5_startAgain 0 = .ok (.aload_n 0, 1) := by decide +kernel
theorem dX5_startAgain_1 : decode cX5_startAgain 1 = .ok (.iload_n 1, 1) := by decide +kernel
theorem dX5_startAgain_2 : decode cX5_startAgain 2 = .ok (.putfield 53, 3) := by decide +kernel
theorem dX5_startAgain_5 : decode cX5_startAgain 5 = .ok (.aload_n 0, 1) := by decide +kernel
theorem dX5_startAgain_6 : decode cX5_startAgain 6 = .ok (.iload_n 2, 1) := by decide +kernel
theorem dX5_startAgain_7 : decode cX5_startAgain 7 = .ok (.putfield 57, 3) := by decide +kernel
theorem dX5_startAgain_10 : decode cX5_startAgain 10 = .ok (.aload_n 0, 1) := by decide +kernel
theorem dX5_startAgain_11 : decode cX5_startAgain 11 = .ok (.invokevirtual 60, 3) := by decide +kernel
theorem dX5_startAgain_14 : decode cX5_startAgain 14 = .ok (.return_, 1) := by decide +kernel
set_option maxRecDepth 20000 in
theorem ggX5_makeEmpty_X4_startAgain : GoodIn wsX5_makeEmpty wsX4_startAgain := goodIn_r _ [16, 17, 18, 61, 62, 63, 64] (by decide +kernel) (by decide +kernel)
set_option maxRecDepth 20000 in
theorem gX5_makeEmpty_X4_startAgain : GoodIn wsX5_makeEmpty (wsV RX5 66 RX4 yX4_startAgain wsX4_startAgain) := goodIn_app (goodIn_of _ (by decide +kernel)) ggX5_makeEmpty_X4_startAgain
set_option maxRecDepth 20000 in
theorem ggX5_makeEmpty_X2_startAgain : GoodIn wsX5_makeEmpty wsX2_startAgain := goodIn_r _ [23, 24, 25, 26, 13, 14, 15, 16, 17, 18, 65, 66, 61, 62, 63, 64] (by decide +kernel) (by decide +kernel)
set_option maxRecDepth 20000 in
theorem gX5_makeEmpty_X2_startAgain : GoodIn wsX5_makeEmpty (wsV RX5 70 RX2 yX2_startAgain wsX2_startAgain) := goodIn_app (goodIn_of _ (by decide +kernel)) ggX5_makeEmpty_X2_startAgain
set_option maxRecDepth 20000 in
theorem ggX5_makeEmpty_X3_startAgain : GoodIn wsX5_makeEmpty wsX3_startAgain := goodIn_r _ [31, 32, 33, 67, 68, 69, 70, 71, 72] (by decide +kernel) (by decide +kernel)
set_option maxRecDepth 20000 in
theorem gX5_makeEmpty_X3_startAgain : GoodIn wsX5_makeEmpty (wsV RX5 71 RX3 yX3_startAgain wsX3_startAgain) := goodIn_app (goodIn_of _ (by decide +kernel)) ggX5_makeEmpty_X3_startAgain
set_option maxRecDepth 20000 in
theorem ggX5_makeEmpty_X1_startAgain : GoodIn wsX5_makeEmpty wsX1_startAgain := goodIn_r _ [38, 39, 40, 73, 74, 75, 76] (by decide +kernel) (by decide +kernel)
set_option maxRecDepth 20000 in
theorem gX5_makeEmpty_X1_startAgain : GoodIn wsX5_makeEmpty (wsV RX5 72 RX1 yX1_startAgain wsX1_startAgain) := goodIn_app (goodIn_of _ (by decide +kernel)) ggX5_makeEmpty_X1_startAgain
set_option maxRecDepth 20000 in
theorem ggX5_makeEmpty_X0_startAgain : GoodIn wsX5_makeEmpty wsX0_startAgain := goodIn_r _ [45, 46, 47, 48, 49, 77, 78, 79, 80, 81, 82] (by decide +kernel) (by decide +kernel)
set_option maxRecDepth 20000 in
theorem gX5_makeEmpty_X0_startAgain : GoodIn wsX5_makeEmpty (wsV RX5 73 RX0 yX0_startAgain wsX0_startAgain) := goodIn_app (goodIn_of _ (by decide +kernel)) ggX5_makeEmpty_X0_startAgain
theorem dX5_makeEmpty_0 : decode cX5_makeEmpty 0 = .ok (.aload_n 0, 1) := by decide +kernel
theorem dX5_makeEmpty_1 : decode cX5_makeEmpty 1 = .ok (.iconst 0, 1) := by decide +kernel
theorem dX5_makeEmpty_2 : decode cX5_makeEmpty 2 = .ok (.putfield 63, 3) := by decide +kernel
theorem dX5_makeEmpty_5 : decode cX5_makeEmpty 5 = .ok (.aload_n 0, 1) := by decide +kernel
theorem dX5_makeEmpty_6 : decode cX5_makeEmpty 6 = .ok (.getfield 10, 3) := by decide +kernel
theorem dX5_makeEmpty_9 : decode cX5_makeEmpty 9 = .ok (.aload_n 0, 1) := by decide +kernel
theorem dX5_makeEmpty_10 : decode cX5_makeEmpty 10 = .ok (.getfield 53, 3) := by decide +kernel
theorem dX5_makeEmpty_13 : decode cX5_makeEmpty 13 = .ok (.invokevirtual 66, 3) := by decide +kernel
theorem dX5_makeEmpty_16 : decode cX5_makeEmpty 16 = .ok (.aload_n 0, 1) := by decide +kernel
theorem dX5_makeEmpty_17 : decode cX5_makeEmpty 17 = .ok (.getfield 19, 3) := by decide +kernel
theorem dX5_makeEmpty_20 : decode cX5_makeEmpty 20 = .ok (.aload_n 0, 1) := by decide +kernel
theorem dX5_makeEmpty_21 : decode cX5_makeEmpty 21 = .ok (.getfield 53, 3) := by decide +kernel
theorem dX5_makeEmpty_24 : decode cX5_makeEmpty 24 = .ok (.invokevirtual 70, 3) := by decide +kernel
theorem dX5_makeEmpty_27 : decode cX5_makeEmpty 27 = .ok (.aload_n 0, 1) := by decide +kernel
theorem dX5_makeEmpty_28 : decode cX5_makeEmpty 28 = .ok (.getfield 23, 3) := by decide +kernel
theorem dX5_makeEmpty_31 : decode cX5_makeEmpty 31 = .ok (.aload_n 0, 1) := by decide +kernel
theorem dX5_makeEmpty_32 : decode cX5_makeEmpty 32 = .ok (.getfield 53, 3) := by decide +kernel
theorem dX5_makeEmpty_35 : decode cX5_makeEmpty 35 = .ok (.invokevirtual 70, 3) := by decide +kernel
theorem dX5_makeEmpty_38 : decode cX5_makeEmpty 38 = .ok (.aload_n 0, 1) := by decide +kernel
theorem dX5_makeEmpty_39 : decode cX5_makeEmpty 39 = .ok (.getfield 26, 3) := by decide +kernel
theorem dX5_makeEmpty_42 : decode cX5_makeEmpty 42 = .ok (.aload_n 0, 1) := by decide +kernel
theorem dX5_makeEmpty_43 : decode cX5_makeEmpty 43 = .ok (.getfield 53, 3) := by decide +kernel
theorem dX5_makeEmpty_46 : decode cX5_makeEmpty 46 = .ok (.invokevirtual 70, 3) := by decide +kernel
theorem dX5_makeEmpty_49 : decode cX5_makeEmpty 49 = .ok (.aload_n 0, 1) := by decide +kernel
theorem dX5_makeEmpty_50 : decode cX5_makeEmpty 50 = .ok (.getfield 29, 3) := by decide +kernel
theorem dX5_makeEmpty_53 : decode cX5_makeEmpty 53 = .ok (.aload_n 0, 1) := by decide +kernel
theorem dX5_makeEmpty_54 : decode cX5_makeEmpty 54 = .ok (.getfield 53, 3) := by decide +kernel
theorem dX5_makeEmpty_57 : decode cX5_makeEmpty 57 = .ok (.invokevirtual 70, 3) := by decide +kernel
theorem dX5_makeEmpty_60 : decode cX5_makeEmpty 60 = .ok (.aload_n 0, 1) := by decide +kernel
theorem dX5_makeEmpty_61 : decode cX5_makeEmpty 61 = .ok (.getfield 35, 3) := by decide +kernel
theorem dX5_makeEmpty_64 : decode cX5_makeEmpty 64 = .ok (.aload_n 0, 1) := by decide +kernel
theorem dX5_makeEmpty_65 : decode cX5_makeEmpty 65 = .ok (.getfield 53, 3) := by decide +kernel
theorem dX5_makeEmpty_68 : decode cX5_makeEmpty 68 = .ok (.invokevirtual 71, 3) := by decide +kernel
theorem dX5_makeEmpty_71 : decode cX5_makeEmpty 71 = .ok (.aload_n 0, 1) := by decide +kernel
theorem dX5_makeEmpty_72 : decode cX5_makeEmpty 72 = .ok (.getfield 42, 3) := by decide +kernel
theorem dX5_makeEmpty_75 : decode cX5_makeEmpty 75 = .ok (.aload_n 0, 1) := by decide +kernel
theorem dX5_makeEmpty_76 : decode cX5_makeEmpty 76 = .ok (.getfield 53, 3) := by decide +kernel
theorem dX5_makeEmpty_79 : decode cX5_makeEmpty 79 = .ok (.invokevirtual 72, 3) := by decide +kernel
theorem dX5_makeEmpty_82 : decode cX5_makeEmpty 82 = .ok (.aload_n 0, 1) := by decide +kernel
theorem dX5_makeEmpty_83 : decode cX5_makeEmpty 83 = .ok (.getfield 49, 3) := by decide +kernel
theorem dX5_makeEmpty_86 : decode cX5_makeEmpty 86 = .ok (.aload_n 0, 1) := by decide +kernel
theorem dX5_makeEmpty_87 : decode cX5_makeEmpty 87 = .ok (.getfield 57, 3) := by decide +kernel
theorem dX5_makeEmpty_90 : decode cX5_makeEmpty 90 = .ok (.invokevirtual 73, 3) := by decide +kernel
theorem dX5_makeEmpty_93 : decode cX5_makeEmpty 93 = .ok (.return_, 1) := by decide +kernel
set_option maxRecDepth 20000 in
theorem ggX5_take_X4_give : GoodIn wsX5_take wsX4_give := goodIn_r _ [10, 11, 12, 13, 14, 15, 16, 17, 18, 19, 112, 113, 114, 115] (by decide +kernel) (by decide +kernel)
set_option maxRecDepth 20000 in
theorem gX5_take_X4_give : GoodIn wsX5_take (wsV RX5 74 RX4 yX4_give wsX4_give) := goodIn_app (goodIn_of _ (by decide +kernel)) ggX5_take_X4_give
set_option maxRecDepth 20000 in
theorem ggX5_take_X5_groupOf : GoodIn wsX5_take wsX5_groupOf := goodIn_r _ [24, 25, 26, 27, 28, 101, 102, 103, 104, 105, 106, 107, 108, 109, 110, 111] (by decide +kernel) (by decide +kernel)
set_option maxRecDepth 20000 in
theorem gX5_take_X5_groupOf : GoodIn wsX5_take (wsV RX5 78 RX5 yX5_groupOf wsX5_groupOf) := goodIn_app (goodIn_of _ (by decide +kernel)) ggX5_take_X5_groupOf
set_option maxRecDepth 20000 in
theorem ggX5_take_X2_give : GoodIn wsX5_take wsX2_give := goodIn_r _ [33, 34, 35, 36, 7, 8, 9, 10, 11, 12, 13, 14, 15, 16, 17, 18, 19, 116, 117, 112, 113, 114, 115] (by decide +kernel) (by decide +kernel)
set_option maxRecDepth 20000 in
theorem gX5_take_X2_give : GoodIn wsX5_take (wsV RX5 82 RX2 yX2_give wsX2_give) := goodIn_app (goodIn_of _ (by decide +kernel)) ggX5_take_X2_give
set_option maxRecDepth 20000 in
theorem ggX5_take_X3_add : GoodIn wsX5_take wsX3_add := goodIn_r _ [41, 42, 43, 44, 45, 46, 47, 48, 49, 50, 51, 52, 53, 54, 40, 55, 56, 57, 58, 59, 60, 16, 61, 62, 63, 64, 65, 18, 19, 118, 119, 120, 121, 122, 123] (by decide +kernel) (by decide +kernel)
set_option maxRecDepth 20000 in
theorem gX5_take_X3_add : GoodIn wsX5_take (wsV RX5 85 RX3 yX3_add wsX3_add) := goodIn_app (goodIn_of _ (by decide +kernel)) ggX5_take_X3_add
set_option maxRecDepth 20000 in
theorem ggX5_take_X1_add : GoodIn wsX5_take wsX1_add := goodIn_r _ [70, 71, 72, 73, 74, 75, 45, 46, 47, 76, 77, 78, 69, 79, 80, 81, 82, 83, 84, 60, 16, 61, 18, 19, 62, 63, 64, 65, 124, 125, 126, 127] (by decide +kernel) (by decide +kernel)
set_option maxRecDepth 20000 in
theorem gX5_take_X1_add : GoodIn wsX5_take (wsV RX5 88 RX1 yX1_add wsX1_add) := goodIn_app (goodIn_of _ (by decide +kernel)) ggX5_take_X1_add
set_option maxRecDepth 20000 in
theorem ggX5_take_X0_give : GoodIn wsX5_take wsX0_give := goodIn_r _ [89, 90, 91, 45, 46, 47, 92, 93, 94, 95, 15, 16, 17, 96, 97, 98, 88, 99, 100, 18, 19, 60, 61, 128, 129, 130, 131, 132, 133] (by decide +kernel) (by decide +kernel)
set_option maxRecDepth 20000 in
theorem gX5_take_X0_give : GoodIn wsX5_take (wsV RX5 91 RX0 yX0_give wsX0_give) := goodIn_app (goodIn_of _ (by decide +kernel)) ggX5_take_X0_give
theorem dX5_take_0 : decode cX5_take 0 = .ok (.aload_n 0, 1) := by decide +kernel
theorem dX5_take_1 : decode cX5_take 1 = .ok (.dup, 1) := by decide +kernel
theorem dX5_take_2 : decode cX5_take 2 = .ok (.getfield 63, 3) := by decide +kernel
theorem dX5_take_5 : decode cX5_take 5 = .ok (.iconst 1, 1) := by decide +kernel
theorem dX5_take_6 : decode cX5_take 6 = .ok (.iadd, 1) := by decide +kernel
theorem dX5_take_7 : decode cX5_take 7 = .ok (.putfield 63, 3) := by decide +kernel
theorem dX5_take_10 : decode cX5_take 10 = .ok (.aload_n 0, 1) := by decide +kernel
theorem dX5_take_11 : decode cX5_take 11 = .ok (.getfield 10, 3) := by decide +kernel
theorem dX5_take_14 : decode cX5_take 14 = .ok (.iload_n 1, 1) := by decide +kernel
theorem dX5_take_15 : decode cX5_take 15 = .ok (.aload_n 0, 1) := by decide +kernel
theorem dX5_take_16 : decode cX5_take 16 = .ok (.getfield 63, 3) := by decide +kernel
theorem dX5_take_19 : decode cX5_take 19 = .ok (.iload 4, 2) := by decide +kernel
theorem dX5_take_21 : decode cX5_take 21 = .ok (.invokevirtual 74, 3) := by decide +kernel
theorem dX5_take_24 : decode cX5_take 24 = .ok (.aload_n 0, 1) := by decide +kernel
theorem dX5_take_25 : decode cX5_take 25 = .ok (.iload_n 3, 1) := by decide +kernel
theorem dX5_take_26 : decode cX5_take 26 = .ok (.invokevirtual 78, 3) := by decide +kernel
theorem dX5_take_29 : decode cX5_take 29 = .ok (.iload_n 1, 1) := by decide +kernel
theorem dX5_take_30 : decode cX5_take 30 = .ok (.iload_n 2, 1) := by decide +kernel
theorem dX5_take_31 : decode cX5_take 31 = .ok (.aload_n 0, 1) := by decide +kernel
theorem dX5_take_32 : decode cX5_take 32 = .ok (.getfield 63, 3) := by decide +kernel
theorem dX5_take_35 : decode cX5_take 35 = .ok (.iload 4, 2) := by decide +kernel
theorem dX5_take_37 : decode cX5_take 37 = .ok (.invokevirtual 82, 3) := by decide +kernel
theorem dX5_take_40 : decode cX5_take 40 = .ok (.aload_n 0, 1) := by decide +kernel
theorem dX5_take_41 : decode cX5_take 41 = .ok (.getfield 35, 3) := by decide +kernel
theorem dX5_take_44 : decode cX5_take 44 = .ok (.iload_n 1, 1) := by decide +kernel
theorem dX5_take_45 : decode cX5_take 45 = .ok (.iload_n 2, 1) := by decide +kernel
theorem dX5_take_46 : decode cX5_take 46 = .ok (.iload_n 3, 1) := by decide +kernel
theorem dX5_take_47 : decode cX5_take 47 = .ok (.iload 4, 2) := by decide +kernel
theorem dX5_take_49 : decode cX5_take 49 = .ok (.invokevirtual 85, 3) := by decide +kernel
theorem dX5_take_52 : decode cX5_take 52 = .ok (.aload_n 0, 1) := by decide +kernel
theorem dX5_take_53 : decode cX5_take 53 = .ok (.getfield 42, 3) := by decide +kernel
theorem dX5_take_56 : decode cX5_take 56 = .ok (.iload_n 1, 1) := by decide +kernel
theorem dX5_take_57 : decode cX5_take 57 = .ok (.iconst 1, 1) := by decide +kernel
theorem dX5_take_58 : decode cX5_take 58 = .ok (.invokevirtual 88, 3) := by decide +kernel
theorem dX5_take_61 : decode cX5_take 61 = .ok (.aload_n 0, 1) := by decide +kernel
theorem dX5_take_62 : decode cX5_take 62 = .ok (.getfield 49, 3) := by decide +kernel
theorem dX5_take_65 : decode cX5_take 65 = .ok (.iload_n 1, 1) := by decide +kernel
theorem dX5_take_66 : decode cX5_take 66 = .ok (.aload_n 0, 1) := by decide +kernel
theorem dX5_take_67 : decode cX5_take 67 = .ok (.getfield 63, 3) := by decide +kernel
theorem dX5_take_70 : decode cX5_take 70 = .ok (.iload 4, 2) := by decide +kernel
theorem dX5_take_72 : decode cX5_take 72 = .ok (.iload 5, 2) := by decide +kernel
theorem dX5_take_74 : decode cX5_take 74 = .ok (.invokevirtual 91, 3) := by decide +kernel
theorem dX5_take_77 : decode cX5_take 77 = .ok (.return_, 1) := by decide +kernel
theorem dX5_groupOf_0 : decode cX5_groupOf 0 = .ok (.iload_n 1, 1) := by decide +kernel
theorem dX5_groupOf_1 : decode cX5_groupOf 1 = .ok (.tableswitch 42 0 2 #[27, 32, 37], 27) := by decide +kernel
theorem dX5_groupOf_28 : decode cX5_groupOf 28 = .ok (.aload_n 0, 1) := by decide +kernel
theorem dX5_groupOf_29 : decode cX5_groupOf 29 = .ok (.getfield 19, 3) := by decide +kernel
theorem dX5_groupOf_32 : decode cX5_groupOf 32 = .ok (.areturn, 1) := by decide +kernel
theorem dX5_groupOf_33 : decode cX5_groupOf 33 = .ok (.aload_n 0, 1) := by decide +kernel
theorem dX5_groupOf_34 : decode cX5_groupOf 34 = .ok (.getfield 23, 3) := by decide +kernel
theorem dX5_groupOf_37 : decode cX5_groupOf 37 = .ok (.areturn, 1) := by decide +kernel
theorem dX5_groupOf_38 : decode cX5_groupOf 38 = .ok (.aload_n 0, 1) := by decide +kernel
theorem dX5_groupOf_39 : decode cX5_groupOf 39 = .ok (.getfield 26, 3) := by decide +kernel
theorem dX5_groupOf_42 : decode cX5_groupOf 42 = .ok (.areturn, 1) := by decide +kernel
theorem dX5_groupOf_43 : decode cX5_groupOf 43 = .ok (.aload_n 0, 1) := by decide +kernel
theorem dX5_groupOf_44 : decode cX5_groupOf 44 = .ok (.getfield 29, 3) := by decide +kernel
theorem dX5_groupOf_47 : decode cX5_groupOf 47 = .ok (.areturn, 1) := by decide +kernel
set_option maxRecDepth 20000 in
theorem ggX6_init_X5_init : GoodIn wsX6_init wsX5_init := goodIn_r _ [18, 19, 2, 3, 20, 21, 22, 23, 24, 25, 26, 27, 28, 29, 30, 31, 10, 11, 32, 33, 14, 15, 34, 35, 36, 37, 38, 39, 40, 41, 42, 43, 44, 45, 46, 47, 48, 49, 50, 51, 52, 53, 54, 55, 56, 57, 58, 59, 60, 61, 62, 63, 64, 65, 66, 142, 143, 144, 145, 116, 117, 118, 119, 120, 121, 122, 123, 124, 125, 126, 146, 147, 132, 133, 134, 135, 136, 137, 138, 139, 140, 141, 148, 149, 150, 151, 152, 153] (by decide +kernel) (by decide +kernel)
set_option maxRecDepth 20000 in
theorem gX6_init_X5_init_n9 : GoodIn wsX6_init (wsX5_init) := ggX6_init_X5_init
set_option maxRecDepth 20000 in
theorem ggX6_init_X3_init : GoodIn wsX6_init wsX3_init := goodIn_r _ [51, 52, 2, 3, 42, 53, 54, 55, 56, 132, 133, 134, 135, 136, 137] (by decide +kernel) (by decide +kernel)
set_option maxRecDepth 20000 in
theorem gX6_init_X3_init_n21 : GoodIn wsX6_init (wsX3_init) := ggX6_init_X3_init
set_option maxRecDepth 20000 in
theorem ggX6_init_X1_init : GoodIn wsX6_init wsX1_init := goodIn_r _ [58, 59, 2, 3, 42, 60, 61, 138, 139, 140, 141] (by decide +kernel) (by decide +kernel)
set_option maxRecDepth 20000 in
theorem gX6_init_X1_init_n28 : GoodIn wsX6_init (wsX1_init) := ggX6_init_X1_init
set_option maxRecDepth 20000 in
theorem ggX6_init_X6_startAgain : GoodIn wsX6_init wsX6_startAgain := goodIn_r _ [71, 72, 7, 8, 73, 74, 75, 6, 76, 77, 78, 79, 80, 81, 82, 83, 23, 27, 28, 29, 30, 32, 34, 38, 84, 85, 86, 22, 87, 88, 89, 90, 91, 92, 26, 93, 94, 49, 95, 96, 97, 98, 11, 99, 100, 101, 102, 103, 104, 15, 105, 106, 107, 108, 109, 110, 37, 111, 112, 113, 114, 115, 127, 128, 129, 130, 131, 116, 117, 118, 119, 120, 121, 122, 123, 124, 125, 126, 142, 143, 144, 145, 146, 147, 132, 133, 134, 135, 136, 137, 138, 139, 140, 141, 148, 149, 150, 151, 152, 153] (by decide +kernel) (by decide +kernel)
set_option maxRecDepth 20000 in
theorem gX6_init_X6_startAgain : GoodIn wsX6_init (wsV RX6 33 RX6 yX6_startAgain wsX6_startAgain) := goodIn_app (goodIn_of _ (by decide +kernel)) ggX6_init_X6_startAgain
theorem dX6_init_0 : decode cX6_init 0 = .ok (.aload_n 0, 1) := by decide +kernel
theorem dX6_init_1 : decode cX6_init 1 = .ok (.invokespecial 1, 3) := by decide +kernel
theorem dX6_init_4 : decode cX6_init 4 = .ok (.aload_n 0, 1) := by decide +kernel
theorem dX6_init_5 : decode cX6_init 5 = .ok (.new 7, 3) := by decide +kernel
theorem dX6_init_8 : decode cX6_init 8 = .ok (.dup, 1) := by decide +kernel
theorem dX6_init_9 : decode cX6_init 9 = .ok (.invokespecial 9, 3) := by decide +kernel
theorem dX6_init_12 : decode cX6_init 12 = .ok (.putfield 10, 3) := by decide +kernel
theorem dX6_init_15 : decode cX6_init 15 = .ok (.aload_n 0, 1) := by decide +kernel
theorem dX6_init_16 : decode cX6_init 16 = .ok (.new 7, 3) := by decide +kernel
theorem dX6_init_19 : decode cX6_init 19 = .ok (.dup, 1) := by decide +kernel
theorem dX6_init_20 : decode cX6_init 20 = .ok (.invokespecial 9, 3) := by decide +kernel
theorem dX6_init_23 : decode cX6_init 23 = .ok (.putfield 16, 3) := by decide +kernel
theorem dX6_init_26 : decode cX6_init 26 = .ok (.aload_n 0, 1) := by decide +kernel
theorem dX6_init_27 : decode cX6_init 27 = .ok (.new 19, 3) := by decide +kernel
theorem dX6_init_30 : decode cX6_init 30 = .ok (.dup, 1) := by decide +kernel
theorem dX6_init_31 : decode cX6_init 31 = .ok (.invokespecial 21, 3) := by decide +kernel
theorem dX6_init_34 : decode cX6_init 34 = .ok (.putfield 22, 3) := by decide +kernel
theorem dX6_init_37 : decode cX6_init 37 = .ok (.aload_n 0, 1) := by decide +kernel
theorem dX6_init_38 : decode cX6_init 38 = .ok (.new 26, 3) := by decide +kernel
theorem dX6_init_41 : decode cX6_init 41 = .ok (.dup, 1) := by decide +kernel
theorem dX6_init_42 : decode cX6_init 42 = .ok (.invokespecial 28, 3) := by decide +kernel
theorem dX6_init_45 : decode cX6_init 45 = .ok (.putfield 29, 3) := by decide +kernel
theorem dX6_init_48 : decode cX6_init 48 = .ok (.aload_n 0, 1) := by decide +kernel
theorem dX6_init_49 : decode cX6_init 49 = .ok (.iconst 4, 1) := by decide +kernel
theorem dX6_init_50 : decode cX6_init 50 = .ok (.bipush 8, 2) := by decide +kernel
theorem dX6_init_52 : decode cX6_init 52 = .ok (.invokevirtual 33, 3) := by decide +kernel
theorem dX6_init_55 : decode cX6_init 55 = .ok (.return_, 1) := by decide +kernel
set_option maxRecDepth 20000 in
theorem ggX6_begin_X6_checkArgument : GoodIn wsX6_begin wsX6_checkArgument := goodIn_ca (goodIn_r _ [4, 5, 6] (by decide +kernel) (by decide +kernel)) (goodIn_sub (fun _ h => List.mem_cons_of_mem _ (List.mem_append_right _ h)) (by decide +kernel))
set_option maxRecDepth 20000 in
theorem gX6_begin_X6_checkArgument : GoodIn wsX6_begin (va_wsS RX6 37 yX6_checkArgument wsX6_checkArgument) := goodIn_app (goodIn_of _ (by decide +kernel)) ggX6_begin_X6_checkArgument
set_option maxRecDepth 20000 in
theorem ggX6_begin_X6_startAgain : GoodIn wsX6_begin wsX6_startAgain := goodIn_r _ [10, 11, 12, 13, 14, 15, 16, 17, 18, 19, 20, 21, 22, 23, 24, 25, 26, 27, 28, 29, 30, 31, 32, 33, 34, 35, 36, 37, 38, 39, 40, 41, 42, 43, 44, 45, 46, 47, 48, 49, 50, 51, 52, 53, 54, 55, 56, 57, 58, 59, 60, 61, 62, 63, 64, 65, 66, 67, 68, 69, 70, 71, 72, 73, 74, 75, 76, 77, 78, 79, 80, 81, 82, 83, 84, 85, 86, 87, 88, 89, 90, 91, 92, 93, 94, 95, 96, 97, 98, 99, 100, 101, 102, 103, 104, 105, 106, 107, 108, 109] (by decide +kernel) (by decide +kernel)
set_option maxRecDepth 20000 in
theorem gX6_begin_X6_startAgain : GoodIn wsX6_begin (wsV RX6 33 RX6 yX6_startAgain wsX6_startAgain) := goodIn_app (goodIn_of _ (by decide +kernel)) ggX6_begin_X6_startAgain
theorem dX6_begin_0 : decode cX6_begin 0 = .ok (.iload_n 1, 1) := by decide +kernel
theorem dX6_begin_1 : decode cX6_begin 1 = .ok (.iconst 2, 1) := by decide +kernel
theorem dX6_begin_2 : decode cX6_begin 2 = .ok (.bipush 16, 2) := by decide +kernel
theorem dX6_begin_4 : decode cX6_begin 4 = .ok (.invokestatic 37, 3) := by decide +kernel
theorem dX6_begin_7 : decode cX6_begin 7 = .ok (.iload_n 2, 1) := by decide +kernel
theorem dX6_begin_8 : decode cX6_begin 8 = .ok (.iconst 1, 1) := by decide +kernel
theorem dX6_begin_9 : decode cX6_begin 9 = .ok (.bipush 64, 2) := by decide +kernel
theorem dX6_begin_11 : decode cX6_begin 11 = .ok (.invokestatic 37, 3) := by decide +kernel
theorem dX6_begin_14 : decode cX6_begin 14 = .ok (.aload_n 0, 1) := by decide +kernel
theorem dX6_begin_15 : decode cX6_begin 15 = .ok (.iload_n 1, 1) := by decide +kernel
theorem dX6_begin_16 : decode cX6_begin 16 = .ok (.iload_n 2, 1) := by decide +kernel
theorem dX6_begin_17 : decode cX6_begin 17 = .ok (.invokevirtual 33, 3) := by decide +kernel
theorem dX6_begin_20 : decode cX6_begin 20 = .ok (.return_, 1) := by decide +kernel
set_option maxRecDepth 20000 in
theorem ggX6_offer_X6_checkArgument : GoodIn wsX6_offer wsX6_checkArgument := goodIn_ca (goodIn_r _ [6, 7, 8] (by decide +kernel) (by decide +kernel)) (goodIn_sub (fun _ h => List.mem_cons_of_mem _ (List.mem_append_left _ (List.mem_append_right _ h))) (by decide +kernel))
set_option maxRecDepth 20000 in
theorem gX6_offer_X6_checkArgument : GoodIn wsX6_offer (va_wsS RX6 37 yX6_checkArgument wsX6_checkArgument) := goodIn_app (goodIn_of _ (by decide +kernel)) ggX6_offer_X6_checkArgument
set_option maxRecDepth 20000 in
theorem ggX6_offer_X6_streamOf : GoodIn wsX6_offer wsX6_streamOf := goodIn_r _ [12, 13, 14, 134, 135, 136, 137, 138] (by decide +kernel) (by decide +kernel)
set_option maxRecDepth 20000 in
theorem gX6_offer_X6_streamOf : GoodIn wsX6_offer (wsV RX6 45 RX6 yX6_streamOf wsX6_streamOf) := goodIn_app (goodIn_of _ (by decide +kernel)) ggX6_offer_X6_streamOf
set_option maxRecDepth 20000 in
theorem ggX6_offer_X6_checkState : GoodIn wsX6_offer wsX6_checkState := goodIn_ca (goodIn_r _ [17, 18, 19] (by decide +kernel) (by decide +kernel)) (goodIn_sub (fun _ h => List.mem_cons_of_mem _ (List.mem_append_right _ h)) (by decide +kernel))
set_option maxRecDepth 20000 in
theorem gX6_offer_X6_checkState : GoodIn wsX6_offer (va_wsS RX6 53 yX6_checkState wsX6_checkState) := goodIn_app (goodIn_of _ (by decide +kernel)) ggX6_offer_X6_checkState
end
section
set_option maxRecDepth 20000 in
theorem ggX6_offer_X5_take : GoodIn wsX6_offer wsX5_take := goodIn_r _ [24, 25, 26, 27, 28, 29, 30, 31, 32, 33, 34, 35, 36, 37, 38, 39, 5, 40, 41, 42, 43, 44, 45, 23, 46, 47, 48, 49, 50, 51, 52, 53, 54, 55, 56, 57, 58, 59, 60, 61, 62, 63, 64, 65, 66, 67, 68, 69, 70, 71, 72, 73, 74, 75, 76, 77, 78, 79, 80, 81, 82, 83, 84, 85, 86, 87, 88, 89, 90, 91, 92, 93, 94, 95, 96, 97, 98, 99, 100, 101, 102, 103, 104, 105, 106, 107, 108, 109, 110, 111, 112, 113, 114, 115, 116, 117, 118, 119, 120, 121, 122, 123, 124, 125, 126, 127, 128, 129, 130, 131, 132, 133, 139, 140, 141, 142, 143, 144, 145, 146, 147, 148, 149, 150, 151, 152, 153, 154, 155, 156, 157, 158, 159, 160] (by decide +kernel) (by decide +kernel)
set_option maxRecDepth 20000 in
theorem gX6_offer_X5_take : GoodIn wsX6_offer (wsV RX6 57 RX5 yX5_take wsX5_take) := goodIn_app (goodIn_of _ (by decide +kernel)) ggX6_offer_X5_take
theorem dX6_offer_0 : decode cX6_offer 0 = .ok (.iload_n 1, 1) := by decide +kernel
theorem dX6_offer_1 : decode cX6_offer 1 = .ok (.iconst 0, 1) := by decide +kernel
theorem dX6_offer_2 : decode cX6_offer 2 = .ok (.iconst 1, 1) := by decide +kernel
theorem dX6_offer_3 : decode cX6_offer 3 = .ok (.invokestatic 37, 3) := by decide +kernel
theorem dX6_offer_6 : decode cX6_offer 6 = .ok (.iload_n 2, 1) := by decide +kernel
theorem dX6_offer_7 : decode cX6_offer 7 = .ok (.iconst 0, 1) := by decide +kernel
theorem dX6_offer_8 : decode cX6_offer 8 = .ok (.ldc 41, 2) := by decide +kernel
theorem dX6_offer_10 : decode cX6_offer 10 = .ok (.invokestatic 37, 3) := by decide +kernel
theorem dX6_offer_13 : decode cX6_offer 13 = .ok (.iload_n 3, 1) := by decide +kernel
theorem dX6_offer_14 : decode cX6_offer 14 = .ok (.iconst 1, 1) := by decide +kernel
theorem dX6_offer_15 : decode cX6_offer 15 = .ok (.ldc 41, 2) := by decide +kernel
theorem dX6_offer_17 : decode cX6_offer 17 = .ok (.invokestatic 37, 3) := by decide +kernel
theorem dX6_offer_20 : decode cX6_offer 20 = .ok (.iload 4, 2) := by decide +kernel
theorem dX6_offer_22 : decode cX6_offer 22 = .ok (.iconst 0, 1) := by decide +kernel
theorem dX6_offer_23 : decode cX6_offer 23 = .ok (.iconst 3, 1) := by decide +kernel
theorem dX6_offer_24 : decode cX6_offer 24 = .ok (.invokestatic 37, 3) := by decide +kernel
theorem dX6_offer_27 : decode cX6_offer 27 = .ok (.iload 5, 2) := by decide +kernel
theorem dX6_offer_29 : decode cX6_offer 29 = .ok (.iconst 0, 1) := by decide +kernel
theorem dX6_offer_30 : decode cX6_offer 30 = .ok (.ldc 44, 2) := by decide +kernel
theorem dX6_offer_32 : decode cX6_offer 32 = .ok (.invokestatic 37, 3) := by decide +kernel
theorem dX6_offer_35 : decode cX6_offer 35 = .ok (.iload 6, 2) := by decide +kernel
theorem dX6_offer_37 : decode cX6_offer 37 = .ok (.iconst 0, 1) := by decide +kernel
theorem dX6_offer_38 : decode cX6_offer 38 = .ok (.ldc 44, 2) := by decide +kernel
theorem dX6_offer_40 : decode cX6_offer 40 = .ok (.invokestatic 37, 3) := by decide +kernel
theorem dX6_offer_43 : decode cX6_offer 43 = .ok (.aload_n 0, 1) := by decide +kernel
theorem dX6_offer_44 : decode cX6_offer 44 = .ok (.iload_n 1, 1) := by decide +kernel
theorem dX6_offer_45 : decode cX6_offer 45 = .ok (.invokevirtual 45, 3) := by decide +kernel
theorem dX6_offer_48 : decode cX6_offer 48 = .ok (.astore 7, 2) := by decide +kernel
theorem dX6_offer_50 : decode cX6_offer 50 = .ok (.aload 7, 2) := by decide +kernel
theorem dX6_offer_52 : decode cX6_offer 52 = .ok (.getfield 49, 3) := by decide +kernel
theorem dX6_offer_55 : decode cX6_offer 55 = .ok (.sipush 300, 3) := by decide +kernel
theorem dX6_offer_58 : decode cX6_offer 58 = .ok (.if_icmp .ge 7, 3) := by decide +kernel
theorem dX6_offer_61 : decode cX6_offer 61 = .ok (.iconst 1, 1) := by decide +kernel
theorem dX6_offer_62 : decode cX6_offer 62 = .ok (.goto 4, 3) := by decide +kernel
theorem dX6_offer_65 : decode cX6_offer 65 = .ok (.iconst 0, 1) := by decide +kernel
theorem dX6_offer_66 : decode cX6_offer 66 = .ok (.invokestatic 53, 3) := by decide +kernel
theorem dX6_offer_69 : decode cX6_offer 69 = .ok (.aload 7, 2) := by decide +kernel
theorem dX6_offer_71 : decode cX6_offer 71 = .ok (.iload_n 2, 1) := by decide +kernel
theorem dX6_offer_72 : decode cX6_offer 72 = .ok (.iload_n 3, 1) := by decide +kernel
theorem dX6_offer_73 : decode cX6_offer 73 = .ok (.iload 4, 2) := by decide +kernel
theorem dX6_offer_75 : decode cX6_offer 75 = .ok (.iload 5, 2) := by decide +kernel
theorem dX6_offer_77 : decode cX6_offer 77 = .ok (.iload 6, 2) := by decide +kernel
theorem dX6_offer_79 : decode cX6_offer 79 = .ok (.invokevirtual 57, 3) := by decide +kernel
theorem dX6_offer_82 : decode cX6_offer 82 = .ok (.aload 7, 2) := by decide +kernel
theorem dX6_offer_84 : decode cX6_offer 84 = .ok (.getfield 49, 3) := by decide +kernel
theorem dX6_offer_87 : decode cX6_offer 87 = .ok (.ireturn, 1) := by decide +kernel
set_option maxRecDepth 20000 in
theorem ggX6_clear_X6_checkArgument : GoodIn wsX6_clear wsX6_checkArgument := goodIn_ca (goodIn_r _ [4, 5, 6] (by decide +kernel) (by decide +kernel)) (goodIn_sub (fun _ h => List.mem_cons_of_mem _ (List.mem_append_right _ h)) (by decide +kernel))
set_option maxRecDepth 20000 in
theorem gX6_clear_X6_checkArgument : GoodIn wsX6_clear (va_wsS RX6 37 yX6_checkArgument wsX6_checkArgument) := goodIn_app (goodIn_of _ (by decide +kernel)) ggX6_clear_X6_checkArgument
set_option maxRecDepth 20000 in
theorem ggX6_clear_X6_streamOf : GoodIn wsX6_clear wsX6_streamOf := goodIn_r _ [10, 11, 12, 78, 79, 80, 81, 82] (by decide +kernel) (by decide +kernel)
set_option maxRecDepth 20000 in
theorem gX6_clear_X6_streamOf : GoodIn wsX6_clear (wsV RX6 45 RX6 yX6_streamOf wsX6_streamOf) := goodIn_app (goodIn_of _ (by decide +kernel)) ggX6_clear_X6_streamOf
set_option maxRecDepth 20000 in
theorem ggX6_clear_X5_makeEmpty : GoodIn wsX6_clear wsX5_makeEmpty := goodIn_r _ [17, 18, 19, 20, 21, 22, 23, 24, 25, 26, 27, 28, 29, 30, 31, 32, 33, 34, 35, 36, 37, 38, 39, 40, 41, 42, 43, 44, 45, 46, 47, 48, 49, 50, 51, 52, 53, 54, 55, 56, 57, 58, 59, 60, 61, 62, 63, 64, 65, 66, 67, 68, 69, 70, 71, 72, 73, 74, 75, 76, 77, 83, 84, 85, 86, 87, 88, 89, 90, 91, 92, 93, 94, 95, 96, 97, 98, 99, 100, 101, 102, 103, 104] (by decide +kernel) (by decide +kernel)
set_option maxRecDepth 20000 in
theorem gX6_clear_X5_makeEmpty : GoodIn wsX6_clear (wsV RX6 61 RX5 yX5_makeEmpty wsX5_makeEmpty) := goodIn_app (goodIn_of _ (by decide +kernel)) ggX6_clear_X5_makeEmpty
theorem dX6_clear_0 : decode cX6_clear 0 = .ok (.iload_n 1, 1) := by decide +kernel
theorem dX6_clear_1 : decode cX6_clear 1 = .ok (.iconst 0, 1) := by decide +kernel
theorem dX6_clear_2 : decode cX6_clear 2 = .ok (.iconst 1, 1) := by decide +kernel
theorem dX6_clear_3 : decode cX6_clear 3 = .ok (.invokestatic 37, 3) := by decide +kernel
theorem dX6_clear_6 : decode cX6_clear 6 = .ok (.aload_n 0, 1) := by decide +kernel
theorem dX6_clear_7 : decode cX6_clear 7 = .ok (.iload_n 1, 1) := by decide +kernel
theorem dX6_clear_8 : decode cX6_clear 8 = .ok (.invokevirtual 45, 3) := by decide +kernel
theorem dX6_clear_11 : decode cX6_clear 11 = .ok (.astore_n 2, 1) := by decide +kernel
theorem dX6_clear_12 : decode cX6_clear 12 = .ok (.aload_n 2, 1) := by decide +kernel
theorem dX6_clear_13 : decode cX6_clear 13 = .ok (.getfield 49, 3) := by decide +kernel
theorem dX6_clear_16 : decode cX6_clear 16 = .ok (.istore_n 3, 1) := by decide +kernel
theorem dX6_clear_17 : decode cX6_clear 17 = .ok (.aload_n 2, 1) := by decide +kernel
theorem dX6_clear_18 : decode cX6_clear 18 = .ok (.invokevirtual 61, 3) := by decide +kernel
theorem dX6_clear_21 : decode cX6_clear 21 = .ok (.iload_n 3, 1) := by decide +kernel
theorem dX6_clear_22 : decode cX6_clear 22 = .ok (.ireturn, 1) := by decide +kernel
set_option maxRecDepth 20000 in
theorem ggX6_offers_X6_checkArgument : GoodIn wsX6_offers wsX6_checkArgument := goodIn_ca (goodIn_r _ [6, 7, 8] (by decide +kernel) (by decide +kernel)) (goodIn_sub (fun _ h => List.mem_cons_of_mem _ (List.mem_append_right _ h)) (by decide +kernel))
set_option maxRecDepth 20000 in
theorem gX6_offers_X6_checkArgument : GoodIn wsX6_offers (va_wsS RX6 37 yX6_checkArgument wsX6_checkArgument) := goodIn_app (goodIn_of _ (by decide +kernel)) ggX6_offers_X6_checkArgument
set_option maxRecDepth 20000 in
theorem ggX6_offers_X6_streamOf : GoodIn wsX6_offers wsX6_streamOf := goodIn_r _ [12, 1, 2, 13, 14, 15, 16, 17] (by decide +kernel) (by decide +kernel)
set_option maxRecDepth 20000 in
theorem gX6_offers_X6_streamOf : GoodIn wsX6_offers (wsV RX6 45 RX6 yX6_streamOf wsX6_streamOf) := goodIn_app (goodIn_of _ (by decide +kernel)) ggX6_offers_X6_streamOf
theorem dX6_offers_0 : decode cX6_offers 0 = .ok (.iload_n 1, 1) := by decide +kernel
theorem dX6_offers_1 : decode cX6_offers 1 = .ok (.iconst 0, 1) := by decide +kernel
theorem dX6_offers_2 : decode cX6_offers 2 = .ok (.iconst 2, 1) := by decide +kernel
theorem dX6_offers_3 : decode cX6_offers 3 = .ok (.invokestatic 37, 3) := by decide +kernel
theorem dX6_offers_6 : decode cX6_offers 6 = .ok (.iload_n 1, 1) := by decide +kernel
theorem dX6_offers_7 : decode cX6_offers 7 = .ok (.iconst 2, 1) := by decide +kernel
theorem dX6_offers_8 : decode cX6_offers 8 = .ok (.if_icmp .ne 19, 3) := by decide +kernel
theorem dX6_offers_11 : decode cX6_offers 11 = .ok (.aload_n 0, 1) := by decide +kernel
theorem dX6_offers_12 : decode cX6_offers 12 = .ok (.getfield 10, 3) := by decide +kernel
theorem dX6_offers_15 : decode cX6_offers 15 = .ok (.getfield 49, 3) := by decide +kernel
theorem dX6_offers_18 : decode cX6_offers 18 = .ok (.aload_n 0, 1) := by decide +kernel
theorem dX6_offers_19 : decode cX6_offers 19 = .ok (.getfield 16, 3) := by decide +kernel
theorem dX6_offers_22 : decode cX6_offers 22 = .ok (.getfield 49, 3) := by decide +kernel
theorem dX6_offers_25 : decode cX6_offers 25 = .ok (.iadd, 1) := by decide +kernel
theorem dX6_offers_26 : decode cX6_offers 26 = .ok (.ireturn, 1) := by decide +kernel
theorem dX6_offers_27 : decode cX6_offers 27 = .ok (.aload_n 0, 1) := by decide +kernel
theorem dX6_offers_28 : decode cX6_offers 28 = .ok (.iload_n 1, 1) := by decide +kernel
theorem dX6_offers_29 : decode cX6_offers 29 = .ok (.invokevirtual 45, 3) := by decide +kernel
theorem dX6_offers_32 : decode cX6_offers 32 = .ok (.getfield 49, 3) := by decide +kernel
theorem dX6_offers_35 : decode cX6_offers 35 = .ok (.ireturn, 1) := by decide +kernel
set_option maxRecDepth 20000 in
theorem ggX6_exactWeight_X6_checkArgument : GoodIn wsX6_exactWeight wsX6_checkArgument := goodIn_ca (goodIn_r _ [6, 7, 8] (by decide +kernel) (by decide +kernel)) (goodIn_sub (fun _ h => List.mem_cons_of_mem _ (List.mem_append_right _ h)) (by decide +kernel))
set_option maxRecDepth 20000 in
theorem gX6_exactWeight_X6_checkArgument : GoodIn wsX6_exactWeight (va_wsS RX6 37 yX6_checkArgument wsX6_checkArgument) := goodIn_app (goodIn_of _ (by decide +kernel)) ggX6_exactWeight_X6_checkArgument
set_option maxRecDepth 20000 in
theorem ggX6_exactWeight_X5_groupOf : GoodIn wsX6_exactWeight wsX5_groupOf := goodIn_r _ [13, 14, 15, 16, 17, 29, 30, 31, 32, 33, 34, 35, 36, 37, 38, 39] (by decide +kernel) (by decide +kernel)
set_option maxRecDepth 20000 in
theorem gX6_exactWeight_X5_groupOf : GoodIn wsX6_exactWeight (wsV RX6 64 RX5 yX5_groupOf wsX5_groupOf) := goodIn_app (goodIn_of _ (by decide +kernel)) ggX6_exactWeight_X5_groupOf
set_option maxRecDepth 20000 in
theorem ggX6_exactWeight_X6_streamOf : GoodIn wsX6_exactWeight wsX6_streamOf := goodIn_r _ [21, 1, 2, 22, 23, 24, 25, 26] (by decide +kernel) (by decide +kernel)
set_option maxRecDepth 20000 in
theorem gX6_exactWeight_X6_streamOf : GoodIn wsX6_exactWeight (wsV RX6 45 RX6 yX6_streamOf wsX6_streamOf) := goodIn_app (goodIn_of _ (by decide +kernel)) ggX6_exactWeight_X6_streamOf
theorem dX6_exactWeight_0 : decode cX6_exactWeight 0 = .ok (.iload_n 1, 1) := by decide +kernel
theorem dX6_exactWeight_1 : decode cX6_exactWeight 1 = .ok (.iconst 0, 1) := by decide +kernel
theorem dX6_exactWeight_2 : decode cX6_exactWeight 2 = .ok (.iconst 2, 1) := by decide +kernel
theorem dX6_exactWeight_3 : decode cX6_exactWeight 3 = .ok (.invokestatic 37, 3) := by decide +kernel
theorem dX6_exactWeight_6 : decode cX6_exactWeight 6 = .ok (.iload_n 2, 1) := by decide +kernel
theorem dX6_exactWeight_7 : decode cX6_exactWeight 7 = .ok (.iconst 0, 1) := by decide +kernel
theorem dX6_exactWeight_8 : decode cX6_exactWeight 8 = .ok (.iconst 3, 1) := by decide +kernel
theorem dX6_exactWeight_9 : decode cX6_exactWeight 9 = .ok (.invokestatic 37, 3) := by decide +kernel
theorem dX6_exactWeight_12 : decode cX6_exactWeight 12 = .ok (.iload_n 1, 1) := by decide +kernel
theorem dX6_exactWeight_13 : decode cX6_exactWeight 13 = .ok (.iconst 2, 1) := by decide +kernel
theorem dX6_exactWeight_14 : decode cX6_exactWeight 14 = .ok (.if_icmp .ne 27, 3) := by decide +kernel
theorem dX6_exactWeight_17 : decode cX6_exactWeight 17 = .ok (.aload_n 0, 1) := by decide +kernel
theorem dX6_exactWeight_18 : decode cX6_exactWeight 18 = .ok (.getfield 10, 3) := by decide +kernel
theorem dX6_exactWeight_21 : decode cX6_exactWeight 21 = .ok (.iload_n 2, 1) := by decide +kernel
theorem dX6_exactWeight_22 : decode cX6_exactWeight 22 = .ok (.invokevirtual 64, 3) := by decide +kernel
theorem dX6_exactWeight_25 : decode cX6_exactWeight 25 = .ok (.getfield 68, 3) := by decide +kernel
theorem dX6_exactWeight_28 : decode cX6_exactWeight 28 = .ok (.aload_n 0, 1) := by decide +kernel
theorem dX6_exactWeight_29 : decode cX6_exactWeight 29 = .ok (.getfield 16, 3) := by decide +kernel
theorem dX6_exactWeight_32 : decode cX6_exactWeight 32 = .ok (.iload_n 2, 1) := by decide +kernel
theorem dX6_exactWeight_33 : decode cX6_exactWeight 33 = .ok (.invokevirtual 64, 3) := by decide +kernel
theorem dX6_exactWeight_36 : decode cX6_exactWeight 36 = .ok (.getfield 68, 3) := by decide +kernel
theorem dX6_exactWeight_39 : decode cX6_exactWeight 39 = .ok (.iadd, 1) := by decide +kernel
theorem dX6_exactWeight_40 : decode cX6_exactWeight 40 = .ok (.ireturn, 1) := by decide +kernel
theorem dX6_exactWeight_41 : decode cX6_exactWeight 41 = .ok (.aload_n 0, 1) := by decide +kernel
theorem dX6_exactWeight_42 : decode cX6_exactWeight 42 = .ok (.iload_n 1, 1) := by decide +kernel
theorem dX6_exactWeight_43 : decode cX6_exactWeight 43 = .ok (.invokevirtual 45, 3) := by decide +kernel
theorem dX6_exactWeight_46 : decode cX6_exactWeight 46 = .ok (.iload_n 2, 1) := by decide +kernel
theorem dX6_exactWeight_47 : decode cX6_exactWeight 47 = .ok (.invokevirtual 64, 3) := by decide +kernel
theorem dX6_exactWeight_50 : decode cX6_exactWeight 50 = .ok (.getfield 68, 3) := by decide +kernel
theorem dX6_exactWeight_53 : decode cX6_exactWeight 53 = .ok (.ireturn, 1) := by decide +kernel
set_option maxRecDepth 20000 in
theorem ggX6_reservoirSize_X6_checkArgument : GoodIn wsX6_reservoirSize wsX6_checkArgument := goodIn_ca (goodIn_r _ [4, 5, 6] (by decide +kernel) (by decide +kernel)) (goodIn_sub (fun _ h => List.mem_cons_of_mem _ (List.mem_append_right _ h)) (by decide +kernel))
set_option maxRecDepth 20000 in
theorem gX6_reservoirSize_X6_checkArgument : GoodIn wsX6_reservoirSize (va_wsS RX6 37 yX6_checkArgument wsX6_checkArgument) := goodIn_app (goodIn_of _ (by decide +kernel)) ggX6_reservoirSize_X6_checkArgument
set_option maxRecDepth 20000 in
theorem ggX6_reservoirSize_X6_streamOf : GoodIn wsX6_reservoirSize wsX6_streamOf := goodIn_r _ [10, 11, 12, 35, 36, 37, 38, 39] (by decide +kernel) (by decide +kernel)
set_option maxRecDepth 20000 in
theorem gX6_reservoirSize_X6_streamOf : GoodIn wsX6_reservoirSize (wsV RX6 45 RX6 yX6_streamOf wsX6_streamOf) := goodIn_app (goodIn_of _ (by decide +kernel)) ggX6_reservoirSize_X6_streamOf
set_option maxRecDepth 20000 in
theorem ggX6_reservoirSize_X4_filled : GoodIn wsX6_reservoirSize wsX4_filled := goodIn_r _ [17, 18, 19, 20, 21, 22, 23, 40, 41, 42, 43] (by decide +kernel) (by decide +kernel)
set_option maxRecDepth 20000 in
theorem gX6_reservoirSize_X4_filled : GoodIn wsX6_reservoirSize (wsV RX6 77 RX4 yX4_filled wsX4_filled) := goodIn_app (goodIn_of _ (by decide +kernel)) ggX6_reservoirSize_X4_filled
theorem dX6_reservoirSize_0 : decode cX6_reservoirSize 0 = .ok (.iload_n 1, 1) := by decide +kernel
theorem dX6_reservoirSize_1 : decode cX6_reservoirSize 1 = .ok (.iconst 0, 1) := by decide +kernel
theorem dX6_reservoirSize_2 : decode cX6_reservoirSize 2 = .ok (.iconst 1, 1) := by decide +kernel
theorem dX6_reservoirSize_3 : decode cX6_reservoirSize 3 = .ok (.invokestatic 37, 3) := by decide +kernel
theorem dX6_reservoirSize_6 : decode cX6_reservoirSize 6 = .ok (.aload_n 0, 1) := by decide +kernel
theorem dX6_reservoirSize_7 : decode cX6_reservoirSize 7 = .ok (.iload_n 1, 1) := by decide +kernel
theorem dX6_reservoirSize_8 : decode cX6_reservoirSize 8 = .ok (.invokevirtual 45, 3) := by decide +kernel
theorem dX6_reservoirSize_11 : decode cX6_reservoirSize 11 = .ok (.getfield 73, 3) := by decide +kernel
theorem dX6_reservoirSize_14 : decode cX6_reservoirSize 14 = .ok (.invokevirtual 77, 3) := by decide +kernel
theorem dX6_reservoirSize_17 : decode cX6_reservoirSize 17 = .ok (.ireturn, 1) := by decide +kernel
set_option maxRecDepth 20000 in
theorem ggX6_reservoirItem_X6_checkArgument : GoodIn wsX6_reservoirItem wsX6_checkArgument := goodIn_ca (goodIn_r _ [4, 5, 6] (by decide +kernel) (by decide +kernel)) (goodIn_sub (fun _ h => List.mem_cons_of_mem _ (List.mem_append_left _ (List.mem_append_right _ h))) (by decide +kernel))
set_option maxRecDepth 20000 in
theorem gX6_reservoirItem_X6_checkArgument : GoodIn wsX6_reservoirItem (va_wsS RX6 37 yX6_checkArgument wsX6_checkArgument) := goodIn_app (goodIn_of _ (by decide +kernel)) ggX6_reservoirItem_X6_checkArgument
set_option maxRecDepth 20000 in
theorem ggX6_reservoirItem_X6_streamOf : GoodIn wsX6_reservoirItem wsX6_streamOf := goodIn_r _ [10, 11, 12, 47, 48, 49, 50, 51] (by decide +kernel) (by decide +kernel)
set_option maxRecDepth 20000 in
theorem gX6_reservoirItem_X6_streamOf : GoodIn wsX6_reservoirItem (wsV RX6 45 RX6 yX6_streamOf wsX6_streamOf) := goodIn_app (goodIn_of _ (by decide +kernel)) ggX6_reservoirItem_X6_streamOf
set_option maxRecDepth 20000 in
theorem ggX6_reservoirItem_X4_filled : GoodIn wsX6_reservoirItem wsX4_filled := goodIn_r _ [17, 18, 19, 20, 21, 22, 23, 43, 44, 45, 46] (by decide +kernel) (by decide +kernel)
set_option maxRecDepth 20000 in
theorem gX6_reservoirItem_X4_filled : GoodIn wsX6_reservoirItem (wsV RX6 77 RX4 yX4_filled wsX4_filled) := goodIn_app (goodIn_of _ (by decide +kernel)) ggX6_reservoirItem_X4_filled
set_option maxRecDepth 20000 in
theorem ggX6_reservoirItem_X6_checkPlace : GoodIn wsX6_reservoirItem wsX6_checkPlace := goodIn_ca (goodIn_r _ [26, 27, 28] (by decide +kernel) (by decide +kernel)) (goodIn_sub (fun _ h => List.mem_cons_of_mem _ (List.mem_append_right _ h)) (by decide +kernel))
set_option maxRecDepth 20000 in
theorem gX6_reservoirItem_X6_checkPlace : GoodIn wsX6_reservoirItem (va_wsS RX6 83 yX6_checkPlace wsX6_checkPlace) := goodIn_app (goodIn_of _ (by decide +kernel)) ggX6_reservoirItem_X6_checkPlace
set_option maxRecDepth 20000 in
theorem ggX6_reservoirItem_X6_at : GoodIn wsX6_reservoirItem wsX6_at := goodIn_r _ [31] (by decide +kernel) (by decide +kernel)
set_option maxRecDepth 20000 in
theorem gX6_reservoirItem_X6_at : GoodIn wsX6_reservoirItem (va_wsS RX6 90 yX6_at wsX6_at) := goodIn_app (goodIn_of _ (by decide +kernel)) ggX6_reservoirItem_X6_at
theorem dX6_reservoirItem_0 : decode cX6_reservoirItem 0 = .ok (.iload_n 1, 1) := by decide +kernel
theorem dX6_reservoirItem_1 : decode cX6_reservoirItem 1 = .ok (.iconst 0, 1) := by decide +kernel
theorem dX6_reservoirItem_2 : decode cX6_reservoirItem 2 = .ok (.iconst 1, 1) := by decide +kernel
theorem dX6_reservoirItem_3 : decode cX6_reservoirItem 3 = .ok (.invokestatic 37, 3) := by decide +kernel
theorem dX6_reservoirItem_6 : decode cX6_reservoirItem 6 = .ok (.aload_n 0, 1) := by decide +kernel
theorem dX6_reservoirItem_7 : decode cX6_reservoirItem 7 = .ok (.iload_n 1, 1) := by decide +kernel
theorem dX6_reservoirItem_8 : decode cX6_reservoirItem 8 = .ok (.invokevirtual 45, 3) := by decide +kernel
theorem dX6_reservoirItem_11 : decode cX6_reservoirItem 11 = .ok (.getfield 73, 3) := by decide +kernel
theorem dX6_reservoirItem_14 : decode cX6_reservoirItem 14 = .ok (.astore_n 3, 1) := by decide +kernel
theorem dX6_reservoirItem_15 : decode cX6_reservoirItem 15 = .ok (.iload_n 2, 1) := by decide +kernel
theorem dX6_reservoirItem_16 : decode cX6_reservoirItem 16 = .ok (.aload_n 3, 1) := by decide +kernel
theorem dX6_reservoirItem_17 : decode cX6_reservoirItem 17 = .ok (.invokevirtual 77, 3) := by decide +kernel
theorem dX6_reservoirItem_20 : decode cX6_reservoirItem 20 = .ok (.invokestatic 83, 3) := by decide +kernel
theorem dX6_reservoirItem_23 : decode cX6_reservoirItem 23 = .ok (.aload_n 3, 1) := by decide +kernel
theorem dX6_reservoirItem_24 : decode cX6_reservoirItem 24 = .ok (.getfield 86, 3) := by decide +kernel
theorem dX6_reservoirItem_27 : decode cX6_reservoirItem 27 = .ok (.iload_n 2, 1) := by decide +kernel
theorem dX6_reservoirItem_28 : decode cX6_reservoirItem 28 = .ok (.invokestatic 90, 3) := by decide +kernel
theorem dX6_reservoirItem_31 : decode cX6_reservoirItem 31 = .ok (.ireturn, 1) := by decide +kernel
set_option maxRecDepth 20000 in
theorem ggX6_reservoirPosition_X6_checkArgument : GoodIn wsX6_reservoirPosition wsX6_checkArgument := goodIn_ca (goodIn_r _ [4, 5, 6] (by decide +kernel) (by decide +kernel)) (goodIn_sub (fun _ h => List.mem_cons_of_mem _ (List.mem_append_left _ (List.mem_append_right _ h))) (by decide +kernel))
set_option maxRecDepth 20000 in
theorem gX6_reservoirPosition_X6_checkArgument : GoodIn wsX6_reservoirPosition (va_wsS RX6 37 yX6_checkArgument wsX6_checkArgument) := goodIn_app (goodIn_of _ (by decide +kernel)) ggX6_reservoirPosition_X6_checkArgument
set_option maxRecDepth 20000 in
theorem ggX6_reservoirPosition_X6_streamOf : GoodIn wsX6_reservoirPosition wsX6_streamOf := goodIn_r _ [10, 11, 12, 47, 48, 49, 50, 51] (by decide +kernel) (by decide +kernel)
set_option maxRecDepth 20000 in
theorem gX6_reservoirPosition_X6_streamOf : GoodIn wsX6_reservoirPosition (wsV RX6 45 RX6 yX6_streamOf wsX6_streamOf) := goodIn_app (goodIn_of _ (by decide +kernel)) ggX6_reservoirPosition_X6_streamOf
set_option maxRecDepth 20000 in
theorem ggX6_reservoirPosition_X4_filled : GoodIn wsX6_reservoirPosition wsX4_filled := goodIn_r _ [17, 18, 19, 20, 21, 22, 23, 43, 44, 45, 46] (by decide +kernel) (by decide +kernel)
set_option maxRecDepth 20000 in
theorem gX6_reservoirPosition_X4_filled : GoodIn wsX6_reservoirPosition (wsV RX6 77 RX4 yX4_filled wsX4_filled) := goodIn_app (goodIn_of _ (by decide +kernel)) ggX6_reservoirPosition_X4_filled
set_option maxRecDepth 20000 in
theorem ggX6_reservoirPosition_X6_checkPlace : GoodIn wsX6_reservoirPosition wsX6_checkPlace := goodIn_ca (goodIn_r _ [26, 27, 28] (by decide +kernel) (by decide +kernel)) (goodIn_sub (fun _ h => List.mem_cons_of_mem _ (List.mem_append_right _ h)) (by decide +kernel))
set_option maxRecDepth 20000 in
theorem gX6_reservoirPosition_X6_checkPlace : GoodIn wsX6_reservoirPosition (va_wsS RX6 83 yX6_checkPlace wsX6_checkPlace) := goodIn_app (goodIn_of _ (by decide +kernel)) ggX6_reservoirPosition_X6_checkPlace
set_option maxRecDepth 20000 in
theorem ggX6_reservoirPosition_X6_at : GoodIn wsX6_reservoirPosition wsX6_at := goodIn_r _ [31] (by decide +kernel) (by decide +kernel)
set_option maxRecDepth 20000 in
theorem gX6_reservoirPosition_X6_at : GoodIn wsX6_reservoirPosition (va_wsS RX6 90 yX6_at wsX6_at) := goodIn_app (goodIn_of _ (by decide +kernel)) ggX6_reservoirPosition_X6_at
theorem dX6_reservoirPosition_0 : decode cX6_reservoirPosition 0 = .ok (.iload_n 1, 1) := by decide +kernel
theorem dX6_reservoirPosition_1 : decode cX6_reservoirPosition 1 = .ok (.iconst 0, 1) := by decide +kernel
theorem dX6_reservoirPosition_2 : decode cX6_reservoirPosition 2 = .ok (.iconst 1, 1) := by decide +kernel
theorem dX6_reservoirPosition_3 : decode cX6_reservoirPosition 3 = .ok (.invokestatic 37, 3) := by decide +kernel
theorem dX6_reservoirPosition_6 : decode cX6_reservoirPosition 6 = .ok (.aload_n 0, 1) := by decide +kernel
theorem dX6_reservoirPosition_7 : decode cX6_reservoirPosition 7 = .ok (.iload_n 1, 1) := by decide +kernel
theorem dX6_reservoirPosition_8 : decode cX6_reservoirPosition 8 = .ok (.invokevirtual 45, 3) := by decide +kernel
theorem dX6_reservoirPosition_11 : decode cX6_reservoirPosition 11 = .ok (.getfield 73, 3) := by decide +kernel
theorem dX6_reservoirPosition_14 : decode cX6_reservoirPosition 14 = .ok (.astore_n 3, 1) := by decide +kernel
theorem dX6_reservoirPosition_15 : decode cX6_reservoirPosition 15 = .ok (.iload_n 2, 1) := by decide +kernel
theorem dX6_reservoirPosition_16 : decode cX6_reservoirPosition 16 = .ok (.aload_n 3, 1) := by decide +kernel
theorem dX6_reservoirPosition_17 : decode cX6_reservoirPosition 17 = .ok (.invokevirtual 77, 3) := by decide +kernel
theorem dX6_reservoirPosition_20 : decode cX6_reservoirPosition 20 = .ok (.invokestatic 83, 3) := by decide +kernel
theorem dX6_reservoirPosition_23 : decode cX6_reservoirPosition 23 = .ok (.aload_n 3, 1) := by decide +kernel
theorem dX6_reservoirPosition_24 : decode cX6_reservoirPosition 24 = .ok (.getfield 94, 3) := by decide +kernel
theorem dX6_reservoirPosition_27 : decode cX6_reservoirPosition 27 = .ok (.iload_n 2, 1) := by decide +kernel
theorem dX6_reservoirPosition_28 : decode cX6_reservoirPosition 28 = .ok (.invokestatic 90, 3) := by decide +kernel
theorem dX6_reservoirPosition_31 : decode cX6_reservoirPosition 31 = .ok (.ireturn, 1) := by decide +kernel
set_option maxRecDepth 20000 in
theorem ggX6_groupOffers_X6_checkArgument : GoodIn wsX6_groupOffers wsX6_checkArgument := goodIn_ca (goodIn_r _ [4, 5, 6] (by decide +kernel) (by decide +kernel)) (goodIn_sub (fun _ h => List.mem_cons_of_mem _ (List.mem_append_right _ h)) (by decide +kernel))
set_option maxRecDepth 20000 in
theorem gX6_groupOffers_X6_checkArgument : GoodIn wsX6_groupOffers (va_wsS RX6 37 yX6_checkArgument wsX6_checkArgument) := goodIn_app (goodIn_of _ (by decide +kernel)) ggX6_groupOffers_X6_checkArgument
set_option maxRecDepth 20000 in
theorem ggX6_groupOffers_X6_streamOf : GoodIn wsX6_groupOffers wsX6_streamOf := goodIn_r _ [10, 11, 12, 28, 29, 30, 31, 32] (by decide +kernel) (by decide +kernel)
set_option maxRecDepth 20000 in
theorem gX6_groupOffers_X6_streamOf : GoodIn wsX6_groupOffers (wsV RX6 45 RX6 yX6_streamOf wsX6_streamOf) := goodIn_app (goodIn_of _ (by decide +kernel)) ggX6_groupOffers_X6_streamOf
set_option maxRecDepth 20000 in
theorem ggX6_groupOffers_X5_groupOf : GoodIn wsX6_groupOffers wsX5_groupOf := goodIn_r _ [17, 18, 19, 20, 21, 33, 34, 35, 36, 37, 38, 39, 40, 41, 42, 43] (by decide +kernel) (by decide +kernel)
set_option maxRecDepth 20000 in
theorem gX6_groupOffers_X5_groupOf : GoodIn wsX6_groupOffers (wsV RX6 64 RX5 yX5_groupOf wsX5_groupOf) := goodIn_app (goodIn_of _ (by decide +kernel)) ggX6_groupOffers_X5_groupOf
theorem dX6_groupOffers_0 : decode cX6_groupOffers 0 = .ok (.iload_n 1, 1) := by decide +kernel
theorem dX6_groupOffers_1 : decode cX6_groupOffers 1 = .ok (.iconst 0, 1) := by decide +kernel
theorem dX6_groupOffers_2 : decode cX6_groupOffers 2 = .ok (.iconst 1, 1) := by decide +kernel
theorem dX6_groupOffers_3 : decode cX6_groupOffers 3 = .ok (.invokestatic 37, 3) := by decide +kernel
theorem dX6_groupOffers_6 : decode cX6_groupOffers 6 = .ok (.iload_n 2, 1) := by decide +kernel
theorem dX6_groupOffers_7 : decode cX6_groupOffers 7 = .ok (.iconst 0, 1) := by decide +kernel
theorem dX6_groupOffers_8 : decode cX6_groupOffers 8 = .ok (.iconst 3, 1) := by decide +kernel
theorem dX6_groupOffers_9 : decode cX6_groupOffers 9 = .ok (.invokestatic 37, 3) := by decide +kernel
theorem dX6_groupOffers_12 : decode cX6_groupOffers 12 = .ok (.aload_n 0, 1) := by decide +kernel
theorem dX6_groupOffers_13 : decode cX6_groupOffers 13 = .ok (.iload_n 1, 1) := by decide +kernel
theorem dX6_groupOffers_14 : decode cX6_groupOffers 14 = .ok (.invokevirtual 45, 3) := by decide +kernel
theorem dX6_groupOffers_17 : decode cX6_groupOffers 17 = .ok (.iload_n 2, 1) := by decide +kernel
theorem dX6_groupOffers_18 : decode cX6_groupOffers 18 = .ok (.invokevirtual 64, 3) := by decide +kernel
theorem dX6_groupOffers_21 : decode cX6_groupOffers 21 = .ok (.getfield 97, 3) := by decide +kernel
theorem dX6_groupOffers_24 : decode cX6_groupOffers 24 = .ok (.getfield 98, 3) := by decide +kernel
theorem dX6_groupOffers_27 : decode cX6_groupOffers 27 = .ok (.ireturn, 1) := by decide +kernel
set_option maxRecDepth 20000 in
theorem ggX6_groupItem_X6_checkArgument : GoodIn wsX6_groupItem wsX6_checkArgument := goodIn_ca (goodIn_r _ [4, 5, 6] (by decide +kernel) (by decide +kernel)) (goodIn_sub (fun _ h => List.mem_cons_of_mem _ (List.mem_append_left _ (List.mem_append_right _ h))) (by decide +kernel))
set_option maxRecDepth 20000 in
theorem gX6_groupItem_X6_checkArgument : GoodIn wsX6_groupItem (va_wsS RX6 37 yX6_checkArgument wsX6_checkArgument) := goodIn_app (goodIn_of _ (by decide +kernel)) ggX6_groupItem_X6_checkArgument
set_option maxRecDepth 20000 in
theorem ggX6_groupItem_X6_streamOf : GoodIn wsX6_groupItem wsX6_streamOf := goodIn_r _ [10, 11, 12, 47, 48, 49, 50, 51] (by decide +kernel) (by decide +kernel)
set_option maxRecDepth 20000 in
theorem gX6_groupItem_X6_streamOf : GoodIn wsX6_groupItem (wsV RX6 45 RX6 yX6_streamOf wsX6_streamOf) := goodIn_app (goodIn_of _ (by decide +kernel)) ggX6_groupItem_X6_streamOf
set_option maxRecDepth 20000 in
theorem ggX6_groupItem_X5_groupOf : GoodIn wsX6_groupItem wsX5_groupOf := goodIn_r _ [17, 18, 19, 20, 21, 52, 53, 54, 55, 56, 57, 58, 59, 60, 61, 62] (by decide +kernel) (by decide +kernel)
set_option maxRecDepth 20000 in
theorem gX6_groupItem_X5_groupOf : GoodIn wsX6_groupItem (wsV RX6 64 RX5 yX5_groupOf wsX5_groupOf) := goodIn_app (goodIn_of _ (by decide +kernel)) ggX6_groupItem_X5_groupOf
set_option maxRecDepth 20000 in
theorem ggX6_groupItem_X4_filled : GoodIn wsX6_groupItem wsX4_filled := goodIn_r _ [26, 27, 28, 29, 30, 31, 32, 43, 44, 45, 46] (by decide +kernel) (by decide +kernel)
set_option maxRecDepth 20000 in
theorem gX6_groupItem_X4_filled : GoodIn wsX6_groupItem (wsV RX6 77 RX4 yX4_filled wsX4_filled) := goodIn_app (goodIn_of _ (by decide +kernel)) ggX6_groupItem_X4_filled
set_option maxRecDepth 20000 in
theorem ggX6_groupItem_X6_checkPlace : GoodIn wsX6_groupItem wsX6_checkPlace := goodIn_ca (goodIn_r _ [35, 36, 37] (by decide +kernel) (by decide +kernel)) (goodIn_sub (fun _ h => List.mem_cons_of_mem _ (List.mem_append_right _ h)) (by decide +kernel))
set_option maxRecDepth 20000 in
theorem gX6_groupItem_X6_checkPlace : GoodIn wsX6_groupItem (va_wsS RX6 83 yX6_checkPlace wsX6_checkPlace) := goodIn_app (goodIn_of _ (by decide +kernel)) ggX6_groupItem_X6_checkPlace
set_option maxRecDepth 20000 in
theorem ggX6_groupItem_X6_at : GoodIn wsX6_groupItem wsX6_at := goodIn_r _ [40] (by decide +kernel) (by decide +kernel)
set_option maxRecDepth 20000 in
theorem gX6_groupItem_X6_at : GoodIn wsX6_groupItem (va_wsS RX6 90 yX6_at wsX6_at) := goodIn_app (goodIn_of _ (by decide +kernel)) ggX6_groupItem_X6_at
theorem dX6_groupItem_0 : decode cX6_groupItem 0 = .ok (.iload_n 1, 1) := by decide +kernel
theorem dX6_groupItem_1 : decode cX6_groupItem 1 = .ok (.iconst 0, 1) := by decide +kernel
theorem dX6_groupItem_2 : decode cX6_groupItem 2 = .ok (.iconst 1, 1) := by decide +kernel
theorem dX6_groupItem_3 : decode cX6_groupItem 3 = .ok (.invokestatic 37, 3) := by decide +kernel
theorem dX6_groupItem_6 : decode cX6_groupItem 6 = .ok (.iload_n 2, 1) := by decide +kernel
theorem dX6_groupItem_7 : decode cX6_groupItem 7 = .ok (.iconst 0, 1) := by decide +kernel
theorem dX6_groupItem_8 : decode cX6_groupItem 8 = .ok (.iconst 3, 1) := by decide +kernel
theorem dX6_groupItem_9 : decode cX6_groupItem 9 = .ok (.invokestatic 37, 3) := by decide +kernel
theorem dX6_groupItem_12 : decode cX6_groupItem 12 = .ok (.aload_n 0, 1) := by decide +kernel
theorem dX6_groupItem_13 : decode cX6_groupItem 13 = .ok (.iload_n 1, 1) := by decide +kernel
theorem dX6_groupItem_14 : decode cX6_groupItem 14 = .ok (.invokevirtual 45, 3) := by decide +kernel
theorem dX6_groupItem_17 : decode cX6_groupItem 17 = .ok (.iload_n 2, 1) := by decide +kernel
theorem dX6_groupItem_18 : decode cX6_groupItem 18 = .ok (.invokevirtual 64, 3) := by decide +kernel
theorem dX6_groupItem_21 : decode cX6_groupItem 21 = .ok (.getfield 97, 3) := by decide +kernel
theorem dX6_groupItem_24 : decode cX6_groupItem 24 = .ok (.astore 4, 2) := by decide +kernel
theorem dX6_groupItem_26 : decode cX6_groupItem 26 = .ok (.iload_n 3, 1) := by decide +kernel
theorem dX6_groupItem_27 : decode cX6_groupItem 27 = .ok (.aload 4, 2) := by decide +kernel
theorem dX6_groupItem_29 : decode cX6_groupItem 29 = .ok (.invokevirtual 77, 3) := by decide +kernel
theorem dX6_groupItem_32 : decode cX6_groupItem 32 = .ok (.invokestatic 83, 3) := by decide +kernel
theorem dX6_groupItem_35 : decode cX6_groupItem 35 = .ok (.aload 4, 2) := by decide +kernel
theorem dX6_groupItem_37 : decode cX6_groupItem 37 = .ok (.getfield 86, 3) := by decide +kernel
theorem dX6_groupItem_40 : decode cX6_groupItem 40 = .ok (.iload_n 3, 1) := by decide +kernel
theorem dX6_groupItem_41 : decode cX6_groupItem 41 = .ok (.invokestatic 90, 3) := by decide +kernel
theorem dX6_groupItem_44 : decode cX6_groupItem 44 = .ok (.ireturn, 1) := by decide +kernel
set_option maxRecDepth 20000 in
theorem ggX6_prioritySize_X6_checkArgument : GoodIn wsX6_prioritySize wsX6_checkArgument := goodIn_ca (goodIn_r _ [4, 5, 6] (by decide +kernel) (by decide +kernel)) (goodIn_sub (fun _ h => List.mem_cons_of_mem _ (List.mem_append_right _ h)) (by decide +kernel))
set_option maxRecDepth 20000 in
theorem gX6_prioritySize_X6_checkArgument : GoodIn wsX6_prioritySize (va_wsS RX6 37 yX6_checkArgument wsX6_checkArgument) := goodIn_app (goodIn_of _ (by decide +kernel)) ggX6_prioritySize_X6_checkArgument
set_option maxRecDepth 20000 in
theorem ggX6_prioritySize_X6_prioritiesOf : GoodIn wsX6_prioritySize wsX6_prioritiesOf := goodIn_r _ [10, 11, 12, 13, 14, 15, 16, 17, 3, 18, 19, 20, 21, 22, 23, 24, 25, 26, 27, 28, 29, 30, 31, 32, 33, 34, 35, 36, 37, 38, 39, 40, 41, 42, 43, 44, 45, 46, 47, 48, 49, 50, 51, 52, 53, 54, 55, 56, 57, 62, 63, 64, 65, 66, 67, 68, 69, 70, 71, 72, 73, 74, 75, 76, 77, 78, 79, 80, 81, 82, 83] (by decide +kernel) (by decide +kernel)
set_option maxRecDepth 20000 in
theorem gX6_prioritySize_X6_prioritiesOf : GoodIn wsX6_prioritySize (wsV RX6 101 RX6 yX6_prioritiesOf wsX6_prioritiesOf) := goodIn_app (goodIn_of _ (by decide +kernel)) ggX6_prioritySize_X6_prioritiesOf
set_option maxRecDepth 20000 in
theorem ggX6_prioritySize_X3_sampled : GoodIn wsX6_prioritySize wsX3_sampled := goodIn_r _ [61, 25, 24, 40, 41, 42, 43, 78, 79, 80, 81, 82, 83] (by decide +kernel) (by decide +kernel)
set_option maxRecDepth 20000 in
theorem gX6_prioritySize_X3_sampled : GoodIn wsX6_prioritySize (wsV RX6 105 RX3 yX3_sampled wsX3_sampled) := goodIn_app (goodIn_of _ (by decide +kernel)) ggX6_prioritySize_X3_sampled
theorem dX6_prioritySize_0 : decode cX6_prioritySize 0 = .ok (.iload_n 1, 1) := by decide +kernel
theorem dX6_prioritySize_1 : decode cX6_prioritySize 1 = .ok (.iconst 0, 1) := by decide +kernel
theorem dX6_prioritySize_2 : decode cX6_prioritySize 2 = .ok (.iconst 2, 1) := by decide +kernel
theorem dX6_prioritySize_3 : decode cX6_prioritySize 3 = .ok (.invokestatic 37, 3) := by decide +kernel
theorem dX6_prioritySize_6 : decode cX6_prioritySize 6 = .ok (.aload_n 0, 1) := by decide +kernel
theorem dX6_prioritySize_7 : decode cX6_prioritySize 7 = .ok (.iload_n 1, 1) := by decide +kernel
theorem dX6_prioritySize_8 : decode cX6_prioritySize 8 = .ok (.invokevirtual 101, 3) := by decide +kernel
theorem dX6_prioritySize_11 : decode cX6_prioritySize 11 = .ok (.invokevirtual 105, 3) := by decide +kernel
theorem dX6_prioritySize_14 : decode cX6_prioritySize 14 = .ok (.ireturn, 1) := by decide +kernel
set_option maxRecDepth 20000 in
theorem ggX6_priorityItem_X6_checkArgument : GoodIn wsX6_priorityItem wsX6_checkArgument := goodIn_ca (goodIn_r _ [4, 5, 6] (by decide +kernel) (by decide +kernel)) (goodIn_sub (fun _ h => List.mem_cons_of_mem _ (List.mem_append_left _ (List.mem_append_right _ h))) (by decide +kernel))
set_option maxRecDepth 20000 in
theorem gX6_priorityItem_X6_checkArgument : GoodIn wsX6_priorityItem (va_wsS RX6 37 yX6_checkArgument wsX6_checkArgument) := goodIn_app (goodIn_of _ (by decide +kernel)) ggX6_priorityItem_X6_checkArgument
set_option maxRecDepth 20000 in
theorem ggX6_priorityItem_X6_prioritiesOf : GoodIn wsX6_priorityItem wsX6_prioritiesOf := goodIn_r _ [10, 11, 12, 13, 14, 15, 16, 17, 3, 18, 19, 20, 21, 22, 23, 24, 25, 26, 27, 28, 29, 30, 31, 32, 33, 34, 35, 36, 37, 38, 39, 40, 41, 42, 43, 44, 45, 46, 47, 48, 49, 50, 51, 52, 53, 54, 55, 56, 57, 73, 74, 75, 76, 77, 78, 79, 80, 81, 82, 83, 84, 85, 86, 87, 88, 67, 68, 69, 70, 71, 72] (by decide +kernel) (by decide +kernel)
set_option maxRecDepth 20000 in
theorem gX6_priorityItem_X6_prioritiesOf : GoodIn wsX6_priorityItem (wsV RX6 101 RX6 yX6_prioritiesOf wsX6_prioritiesOf) := goodIn_app (goodIn_of _ (by decide +kernel)) ggX6_priorityItem_X6_prioritiesOf
end
section
set_option maxRecDepth 20000 in
theorem ggX6_priorityItem_X3_sampled : GoodIn wsX6_priorityItem wsX3_sampled := goodIn_r _ [61, 25, 24, 40, 41, 42, 43, 67, 68, 69, 70, 71, 72] (by decide +kernel) (by decide +kernel)
set_option maxRecDepth 20000 in
theorem gX6_priorityItem_X3_sampled : GoodIn wsX6_priorityItem (wsV RX6 105 RX3 yX3_sampled wsX3_sampled) := goodIn_app (goodIn_of _ (by decide +kernel)) ggX6_priorityItem_X3_sampled
set_option maxRecDepth 20000 in
theorem ggX6_priorityItem_X6_checkPlace : GoodIn wsX6_priorityItem wsX6_checkPlace := goodIn_ca (goodIn_r _ [64, 65, 66] (by decide +kernel) (by decide +kernel)) (goodIn_sub (fun _ h => List.mem_cons_of_mem _ (List.mem_append_right _ h)) (by decide +kernel))
set_option maxRecDepth 20000 in
theorem gX6_priorityItem_X6_checkPlace : GoodIn wsX6_priorityItem (va_wsS RX6 83 yX6_checkPlace wsX6_checkPlace) := goodIn_app (goodIn_of _ (by decide +kernel)) ggX6_priorityItem_X6_checkPlace
set_option maxRecDepth 20000 in
theorem ggX6_priorityItem_X6_at : GoodIn wsX6_priorityItem wsX6_at := goodIn_r _ [35] (by decide +kernel) (by decide +kernel)
set_option maxRecDepth 20000 in
theorem gX6_priorityItem_X6_at : GoodIn wsX6_priorityItem (va_wsS RX6 90 yX6_at wsX6_at) := goodIn_app (goodIn_of _ (by decide +kernel)) ggX6_priorityItem_X6_at
theorem dX6_priorityItem_0 : decode cX6_priorityItem 0 = .ok (.iload_n 1, 1) := by decide +kernel
theorem dX6_priorityItem_1 : decode cX6_priorityItem 1 = .ok (.iconst 0, 1) := by decide +kernel
theorem dX6_priorityItem_2 : decode cX6_priorityItem 2 = .ok (.iconst 2, 1) := by decide +kernel
theorem dX6_priorityItem_3 : decode cX6_priorityItem 3 = .ok (.invokestatic 37, 3) := by decide +kernel
theorem dX6_priorityItem_6 : decode cX6_priorityItem 6 = .ok (.aload_n 0, 1) := by decide +kernel
theorem dX6_priorityItem_7 : decode cX6_priorityItem 7 = .ok (.iload_n 1, 1) := by decide +kernel
theorem dX6_priorityItem_8 : decode cX6_priorityItem 8 = .ok (.invokevirtual 101, 3) := by decide +kernel
theorem dX6_priorityItem_11 : decode cX6_priorityItem 11 = .ok (.astore_n 3, 1) := by decide +kernel
theorem dX6_priorityItem_12 : decode cX6_priorityItem 12 = .ok (.iload_n 2, 1) := by decide +kernel
theorem dX6_priorityItem_13 : decode cX6_priorityItem 13 = .ok (.aload_n 3, 1) := by decide +kernel
theorem dX6_priorityItem_14 : decode cX6_priorityItem 14 = .ok (.invokevirtual 105, 3) := by decide +kernel
theorem dX6_priorityItem_17 : decode cX6_priorityItem 17 = .ok (.invokestatic 83, 3) := by decide +kernel
theorem dX6_priorityItem_20 : decode cX6_priorityItem 20 = .ok (.aload_n 3, 1) := by decide +kernel
theorem dX6_priorityItem_21 : decode cX6_priorityItem 21 = .ok (.getfield 108, 3) := by decide +kernel
theorem dX6_priorityItem_24 : decode cX6_priorityItem 24 = .ok (.iload_n 2, 1) := by decide +kernel
theorem dX6_priorityItem_25 : decode cX6_priorityItem 25 = .ok (.invokestatic 90, 3) := by decide +kernel
theorem dX6_priorityItem_28 : decode cX6_priorityItem 28 = .ok (.ireturn, 1) := by decide +kernel
set_option maxRecDepth 20000 in
theorem ggX6_estimatedWeight_X6_checkArgument : GoodIn wsX6_estimatedWeight wsX6_checkArgument := goodIn_ca (goodIn_r _ [4, 5, 6] (by decide +kernel) (by decide +kernel)) (goodIn_sub (fun _ h => List.mem_cons_of_mem _ (List.mem_append_left _ (List.mem_append_right _ h))) (by decide +kernel))
set_option maxRecDepth 20000 in
theorem gX6_estimatedWeight_X6_checkArgument : GoodIn wsX6_estimatedWeight (va_wsS RX6 37 yX6_checkArgument wsX6_checkArgument) := goodIn_app (goodIn_of _ (by decide +kernel)) ggX6_estimatedWeight_X6_checkArgument
set_option maxRecDepth 20000 in
theorem ggX6_estimatedWeight_X6_prioritiesOf : GoodIn wsX6_estimatedWeight wsX6_prioritiesOf := goodIn_r _ [10, 11, 12, 13, 14, 15, 16, 17, 3, 18, 19, 20, 21, 22, 23, 24, 25, 26, 27, 28, 29, 30, 31, 32, 33, 34, 35, 36, 37, 38, 39, 40, 41, 42, 43, 44, 45, 46, 47, 48, 49, 50, 51, 52, 53, 54, 55, 56, 57, 80, 81, 82, 83, 84, 85, 86, 87, 88, 89, 90, 91, 92, 93, 94, 95, 96, 97, 98, 99, 100, 101] (by decide +kernel) (by decide +kernel)
set_option maxRecDepth 20000 in
theorem gX6_estimatedWeight_X6_prioritiesOf : GoodIn wsX6_estimatedWeight (wsV RX6 101 RX6 yX6_prioritiesOf wsX6_prioritiesOf) := goodIn_app (goodIn_of _ (by decide +kernel)) ggX6_estimatedWeight_X6_prioritiesOf
set_option maxRecDepth 20000 in
theorem ggX6_estimatedWeight_X3_sampled : GoodIn wsX6_estimatedWeight wsX3_sampled := goodIn_r _ [61, 25, 24, 40, 41, 42, 43, 96, 97, 98, 99, 100, 101] (by decide +kernel) (by decide +kernel)
set_option maxRecDepth 20000 in
theorem gX6_estimatedWeight_X3_sampled : GoodIn wsX6_estimatedWeight (wsV RX6 105 RX3 yX3_sampled wsX3_sampled) := goodIn_app (goodIn_of _ (by decide +kernel)) ggX6_estimatedWeight_X3_sampled
set_option maxRecDepth 20000 in
theorem ggX6_estimatedWeight_X6_checkPlace : GoodIn wsX6_estimatedWeight wsX6_checkPlace := goodIn_ca (goodIn_r _ [64, 65, 66] (by decide +kernel) (by decide +kernel)) (goodIn_sub (fun _ h => List.mem_cons_of_mem _ (List.mem_append_right _ h)) (by decide +kernel))
set_option maxRecDepth 20000 in
theorem gX6_estimatedWeight_X6_checkPlace : GoodIn wsX6_estimatedWeight (va_wsS RX6 83 yX6_checkPlace wsX6_checkPlace) := goodIn_app (goodIn_of _ (by decide +kernel)) ggX6_estimatedWeight_X6_checkPlace
set_option maxRecDepth 20000 in
theorem ggX6_estimatedWeight_X3_estimateAt : GoodIn wsX6_estimatedWeight wsX3_estimateAt := goodIn_r _ [70, 31, 71, 72, 42, 73, 34, 3, 35, 74, 75, 76, 22, 77, 25, 24, 33, 78, 79, 96, 97, 98, 99, 100, 101] (by decide +kernel) (by decide +kernel)
set_option maxRecDepth 20000 in
theorem gX6_estimatedWeight_X3_estimateAt : GoodIn wsX6_estimatedWeight (wsV RX6 109 RX3 yX3_estimateAt wsX3_estimateAt) := goodIn_app (goodIn_of _ (by decide +kernel)) ggX6_estimatedWeight_X3_estimateAt
theorem dX6_estimatedWeight_0 : decode cX6_estimatedWeight 0 = .ok (.iload_n 1, 1) := by decide +kernel
theorem dX6_estimatedWeight_1 : decode cX6_estimatedWeight 1 = .ok (.iconst 0, 1) := by decide +kernel
theorem dX6_estimatedWeight_2 : decode cX6_estimatedWeight 2 = .ok (.iconst 2, 1) := by decide +kernel
theorem dX6_estimatedWeight_3 : decode cX6_estimatedWeight 3 = .ok (.invokestatic 37, 3) := by decide +kernel
theorem dX6_estimatedWeight_6 : decode cX6_estimatedWeight 6 = .ok (.aload_n 0, 1) := by decide +kernel
theorem dX6_estimatedWeight_7 : decode cX6_estimatedWeight 7 = .ok (.iload_n 1, 1) := by decide +kernel
theorem dX6_estimatedWeight_8 : decode cX6_estimatedWeight 8 = .ok (.invokevirtual 101, 3) := by decide +kernel
theorem dX6_estimatedWeight_11 : decode cX6_estimatedWeight 11 = .ok (.astore_n 3, 1) := by decide +kernel
theorem dX6_estimatedWeight_12 : decode cX6_estimatedWeight 12 = .ok (.iload_n 2, 1) := by decide +kernel
theorem dX6_estimatedWeight_13 : decode cX6_estimatedWeight 13 = .ok (.aload_n 3, 1) := by decide +kernel
theorem dX6_estimatedWeight_14 : decode cX6_estimatedWeight 14 = .ok (.invokevirtual 105, 3) := by decide +kernel
theorem dX6_estimatedWeight_17 : decode cX6_estimatedWeight 17 = .ok (.invokestatic 83, 3) := by decide +kernel
theorem dX6_estimatedWeight_20 : decode cX6_estimatedWeight 20 = .ok (.aload_n 3, 1) := by decide +kernel
theorem dX6_estimatedWeight_21 : decode cX6_estimatedWeight 21 = .ok (.iload_n 2, 1) := by decide +kernel
theorem dX6_estimatedWeight_22 : decode cX6_estimatedWeight 22 = .ok (.invokevirtual 109, 3) := by decide +kernel
theorem dX6_estimatedWeight_25 : decode cX6_estimatedWeight 25 = .ok (.lreturn, 1) := by decide +kernel
set_option maxRecDepth 20000 in
theorem ggX6_threshold_X6_checkArgument : GoodIn wsX6_threshold wsX6_checkArgument := goodIn_ca (goodIn_r _ [4, 5, 6] (by decide +kernel) (by decide +kernel)) (goodIn_sub (fun _ h => List.mem_cons_of_mem _ (List.mem_append_right _ h)) (by decide +kernel))
set_option maxRecDepth 20000 in
theorem gX6_threshold_X6_checkArgument : GoodIn wsX6_threshold (va_wsS RX6 37 yX6_checkArgument wsX6_checkArgument) := goodIn_app (goodIn_of _ (by decide +kernel)) ggX6_threshold_X6_checkArgument
set_option maxRecDepth 20000 in
theorem ggX6_threshold_X6_prioritiesOf : GoodIn wsX6_threshold wsX6_prioritiesOf := goodIn_r _ [10, 11, 12, 13, 14, 15, 16, 17, 3, 18, 19, 20, 21, 22, 23, 24, 25, 26, 27, 28, 29, 30, 31, 32, 33, 34, 35, 36, 37, 38, 39, 40, 41, 42, 43, 44, 45, 46, 47, 48, 49, 50, 51, 52, 53, 54, 55, 56, 57, 64, 65, 66, 67, 68, 69, 70, 71, 72, 73, 74, 75, 76, 77, 78, 79, 80, 81, 82, 83, 84, 85] (by decide +kernel) (by decide +kernel)
set_option maxRecDepth 20000 in
theorem gX6_threshold_X6_prioritiesOf : GoodIn wsX6_threshold (wsV RX6 101 RX6 yX6_prioritiesOf wsX6_prioritiesOf) := goodIn_app (goodIn_of _ (by decide +kernel)) ggX6_threshold_X6_prioritiesOf
set_option maxRecDepth 20000 in
theorem ggX6_threshold_X3_bound : GoodIn wsX6_threshold wsX3_bound := goodIn_r _ [61, 25, 24, 31, 33, 34, 3, 35, 62, 63, 80, 81, 82, 83, 84, 85] (by decide +kernel) (by decide +kernel)
set_option maxRecDepth 20000 in
theorem gX6_threshold_X3_bound : GoodIn wsX6_threshold (wsV RX6 113 RX3 yX3_bound wsX3_bound) := goodIn_app (goodIn_of _ (by decide +kernel)) ggX6_threshold_X3_bound
theorem dX6_threshold_0 : decode cX6_threshold 0 = .ok (.iload_n 1, 1) := by decide +kernel
theorem dX6_threshold_1 : decode cX6_threshold 1 = .ok (.iconst 0, 1) := by decide +kernel
theorem dX6_threshold_2 : decode cX6_threshold 2 = .ok (.iconst 2, 1) := by decide +kernel
theorem dX6_threshold_3 : decode cX6_threshold 3 = .ok (.invokestatic 37, 3) := by decide +kernel
theorem dX6_threshold_6 : decode cX6_threshold 6 = .ok (.aload_n 0, 1) := by decide +kernel
theorem dX6_threshold_7 : decode cX6_threshold 7 = .ok (.iload_n 1, 1) := by decide +kernel
theorem dX6_threshold_8 : decode cX6_threshold 8 = .ok (.invokevirtual 101, 3) := by decide +kernel
theorem dX6_threshold_11 : decode cX6_threshold 11 = .ok (.invokevirtual 113, 3) := by decide +kernel
theorem dX6_threshold_14 : decode cX6_threshold 14 = .ok (.lreturn, 1) := by decide +kernel
set_option maxRecDepth 20000 in
theorem ggX6_estimate_X6_checkArgument : GoodIn wsX6_estimate wsX6_checkArgument := goodIn_ca (goodIn_r _ [4, 5, 6] (by decide +kernel) (by decide +kernel)) (goodIn_sub (fun _ h => List.mem_cons_of_mem _ (List.mem_append_right _ h)) (by decide +kernel))
set_option maxRecDepth 20000 in
theorem gX6_estimate_X6_checkArgument : GoodIn wsX6_estimate (va_wsS RX6 37 yX6_checkArgument wsX6_checkArgument) := goodIn_app (goodIn_of _ (by decide +kernel)) ggX6_estimate_X6_checkArgument
set_option maxRecDepth 20000 in
theorem ggX6_estimate_X6_prioritiesOf : GoodIn wsX6_estimate wsX6_prioritiesOf := goodIn_r _ [10, 11, 12, 13, 14, 15, 16, 17, 3, 18, 19, 20, 21, 22, 23, 24, 25, 26, 27, 28, 29, 30, 31, 32, 33, 34, 35, 36, 37, 38, 39, 40, 41, 42, 43, 44, 45, 46, 47, 48, 49, 50, 51, 52, 53, 54, 55, 56, 57, 79, 80, 81, 82, 83, 84, 85, 86, 87, 88, 89, 90, 91, 92, 93, 94, 95, 96, 97, 98, 99, 100] (by decide +kernel) (by decide +kernel)
set_option maxRecDepth 20000 in
theorem gX6_estimate_X6_prioritiesOf : GoodIn wsX6_estimate (wsV RX6 101 RX6 yX6_prioritiesOf wsX6_prioritiesOf) := goodIn_app (goodIn_of _ (by decide +kernel)) ggX6_estimate_X6_prioritiesOf
set_option maxRecDepth 20000 in
theorem ggX6_estimate_X3_estimatedSum : GoodIn wsX6_estimate wsX3_estimatedSum := goodIn_r _ [61, 32, 62, 63, 64, 22, 65, 25, 24, 40, 41, 42, 43, 34, 3, 35, 66, 67, 68, 69, 31, 70, 71, 72, 73, 74, 75, 76, 33, 77, 78, 95, 96, 97, 98, 99, 100] (by decide +kernel) (by decide +kernel)
set_option maxRecDepth 20000 in
theorem gX6_estimate_X3_estimatedSum : GoodIn wsX6_estimate (wsV RX6 117 RX3 yX3_estimatedSum wsX3_estimatedSum) := goodIn_app (goodIn_of _ (by decide +kernel)) ggX6_estimate_X3_estimatedSum
theorem dX6_estimate_0 : decode cX6_estimate 0 = .ok (.iload_n 1, 1) := by decide +kernel
theorem dX6_estimate_1 : decode cX6_estimate 1 = .ok (.iconst 0, 1) := by decide +kernel
theorem dX6_estimate_2 : decode cX6_estimate 2 = .ok (.iconst 2, 1) := by decide +kernel
theorem dX6_estimate_3 : decode cX6_estimate 3 = .ok (.invokestatic 37, 3) := by decide +kernel
theorem dX6_estimate_6 : decode cX6_estimate 6 = .ok (.iload_n 2, 1) := by decide +kernel
theorem dX6_estimate_7 : decode cX6_estimate 7 = .ok (.iconst 0, 1) := by decide +kernel
theorem dX6_estimate_8 : decode cX6_estimate 8 = .ok (.iconst 3, 1) := by decide +kernel
theorem dX6_estimate_9 : decode cX6_estimate 9 = .ok (.invokestatic 37, 3) := by decide +kernel
theorem dX6_estimate_12 : decode cX6_estimate 12 = .ok (.aload_n 0, 1) := by decide +kernel
theorem dX6_estimate_13 : decode cX6_estimate 13 = .ok (.iload_n 1, 1) := by decide +kernel
theorem dX6_estimate_14 : decode cX6_estimate 14 = .ok (.invokevirtual 101, 3) := by decide +kernel
theorem dX6_estimate_17 : decode cX6_estimate 17 = .ok (.iload_n 2, 1) := by decide +kernel
theorem dX6_estimate_18 : decode cX6_estimate 18 = .ok (.invokevirtual 117, 3) := by decide +kernel
theorem dX6_estimate_21 : decode cX6_estimate 21 = .ok (.lreturn, 1) := by decide +kernel
set_option maxRecDepth 20000 in
theorem ggX6_sampledWeight_X6_checkArgument : GoodIn wsX6_sampledWeight wsX6_checkArgument := goodIn_ca (goodIn_r _ [4, 5, 6] (by decide +kernel) (by decide +kernel)) (goodIn_sub (fun _ h => List.mem_cons_of_mem _ (List.mem_append_right _ h)) (by decide +kernel))
set_option maxRecDepth 20000 in
theorem gX6_sampledWeight_X6_checkArgument : GoodIn wsX6_sampledWeight (va_wsS RX6 37 yX6_checkArgument wsX6_checkArgument) := goodIn_app (goodIn_of _ (by decide +kernel)) ggX6_sampledWeight_X6_checkArgument
set_option maxRecDepth 20000 in
theorem ggX6_sampledWeight_X6_prioritiesOf : GoodIn wsX6_sampledWeight wsX6_prioritiesOf := goodIn_r _ [10, 11, 12, 13, 14, 15, 16, 17, 3, 18, 19, 20, 21, 22, 23, 24, 25, 26, 27, 28, 29, 30, 31, 32, 33, 34, 35, 36, 37, 38, 39, 40, 41, 42, 43, 44, 45, 46, 47, 48, 49, 50, 51, 52, 53, 54, 55, 56, 57, 66, 67, 68, 69, 70, 71, 72, 73, 74, 75, 76, 77, 78, 79, 80, 81, 82, 83, 84, 85, 86, 87] (by decide +kernel) (by decide +kernel)
set_option maxRecDepth 20000 in
theorem gX6_sampledWeight_X6_prioritiesOf : GoodIn wsX6_sampledWeight (wsV RX6 101 RX6 yX6_prioritiesOf wsX6_prioritiesOf) := goodIn_app (goodIn_of _ (by decide +kernel)) ggX6_sampledWeight_X6_prioritiesOf
set_option maxRecDepth 20000 in
theorem ggX6_sampledWeight_X3_weightSum : GoodIn wsX6_sampledWeight wsX3_weightSum := goodIn_r _ [61, 32, 31, 62, 63, 64, 22, 65, 25, 24, 40, 41, 42, 43, 34, 3, 35, 82, 83, 84, 85, 86, 87] (by decide +kernel) (by decide +kernel)
set_option maxRecDepth 20000 in
theorem gX6_sampledWeight_X3_weightSum : GoodIn wsX6_sampledWeight (wsV RX6 120 RX3 yX3_weightSum wsX3_weightSum) := goodIn_app (goodIn_of _ (by decide +kernel)) ggX6_sampledWeight_X3_weightSum
theorem dX6_sampledWeight_0 : decode cX6_sampledWeight 0 = .ok (.iload_n 1, 1) := by decide +kernel
theorem dX6_sampledWeight_1 : decode cX6_sampledWeight 1 = .ok (.iconst 0, 1) := by decide +kernel
theorem dX6_sampledWeight_2 : decode cX6_sampledWeight 2 = .ok (.iconst 2, 1) := by decide +kernel
theorem dX6_sampledWeight_3 : decode cX6_sampledWeight 3 = .ok (.invokestatic 37, 3) := by decide +kernel
theorem dX6_sampledWeight_6 : decode cX6_sampledWeight 6 = .ok (.iload_n 2, 1) := by decide +kernel
theorem dX6_sampledWeight_7 : decode cX6_sampledWeight 7 = .ok (.iconst 0, 1) := by decide +kernel
theorem dX6_sampledWeight_8 : decode cX6_sampledWeight 8 = .ok (.iconst 3, 1) := by decide +kernel
theorem dX6_sampledWeight_9 : decode cX6_sampledWeight 9 = .ok (.invokestatic 37, 3) := by decide +kernel
theorem dX6_sampledWeight_12 : decode cX6_sampledWeight 12 = .ok (.aload_n 0, 1) := by decide +kernel
theorem dX6_sampledWeight_13 : decode cX6_sampledWeight 13 = .ok (.iload_n 1, 1) := by decide +kernel
theorem dX6_sampledWeight_14 : decode cX6_sampledWeight 14 = .ok (.invokevirtual 101, 3) := by decide +kernel
theorem dX6_sampledWeight_17 : decode cX6_sampledWeight 17 = .ok (.iload_n 2, 1) := by decide +kernel
theorem dX6_sampledWeight_18 : decode cX6_sampledWeight 18 = .ok (.invokevirtual 120, 3) := by decide +kernel
theorem dX6_sampledWeight_21 : decode cX6_sampledWeight 21 = .ok (.ireturn, 1) := by decide +kernel
set_option maxRecDepth 20000 in
theorem ggX6_distinctSize_X6_checkArgument : GoodIn wsX6_distinctSize wsX6_checkArgument := goodIn_ca (goodIn_r _ [4, 5, 6] (by decide +kernel) (by decide +kernel)) (goodIn_sub (fun _ h => List.mem_cons_of_mem _ (List.mem_append_right _ h)) (by decide +kernel))
set_option maxRecDepth 20000 in
theorem gX6_distinctSize_X6_checkArgument : GoodIn wsX6_distinctSize (va_wsS RX6 37 yX6_checkArgument wsX6_checkArgument) := goodIn_app (goodIn_of _ (by decide +kernel)) ggX6_distinctSize_X6_checkArgument
set_option maxRecDepth 20000 in
theorem ggX6_distinctSize_X6_distinctOf : GoodIn wsX6_distinctSize wsX6_distinctOf := goodIn_r _ [10, 11, 12, 13, 14, 15, 16, 17, 3, 18, 19, 20, 21, 22, 23, 24, 25, 26, 27, 28, 29, 30, 31, 32, 33, 34, 35, 36, 37, 38, 39, 40, 41, 42, 43, 44, 45, 46, 47, 48, 49, 50, 51, 52, 53, 54, 55, 56, 61, 62, 63, 64, 65, 66, 67, 68, 69, 70, 71, 72, 73, 74, 75, 76, 57, 58, 59, 60] (by decide +kernel) (by decide +kernel)
set_option maxRecDepth 20000 in
theorem gX6_distinctSize_X6_distinctOf : GoodIn wsX6_distinctSize (wsV RX6 124 RX6 yX6_distinctOf wsX6_distinctOf) := goodIn_app (goodIn_of _ (by decide +kernel)) ggX6_distinctSize_X6_distinctOf
theorem dX6_distinctSize_0 : decode cX6_distinctSize 0 = .ok (.iload_n 1, 1) := by decide +kernel
theorem dX6_distinctSize_1 : decode cX6_distinctSize 1 = .ok (.iconst 0, 1) := by decide +kernel
theorem dX6_distinctSize_2 : decode cX6_distinctSize 2 = .ok (.iconst 2, 1) := by decide +kernel
theorem dX6_distinctSize_3 : decode cX6_distinctSize 3 = .ok (.invokestatic 37, 3) := by decide +kernel
theorem dX6_distinctSize_6 : decode cX6_distinctSize 6 = .ok (.aload_n 0, 1) := by decide +kernel
theorem dX6_distinctSize_7 : decode cX6_distinctSize 7 = .ok (.iload_n 1, 1) := by decide +kernel
theorem dX6_distinctSize_8 : decode cX6_distinctSize 8 = .ok (.invokevirtual 124, 3) := by decide +kernel
theorem dX6_distinctSize_11 : decode cX6_distinctSize 11 = .ok (.getfield 128, 3) := by decide +kernel
theorem dX6_distinctSize_14 : decode cX6_distinctSize 14 = .ok (.ireturn, 1) := by decide +kernel
set_option maxRecDepth 20000 in
theorem ggX6_distinctItem_X6_checkArgument : GoodIn wsX6_distinctItem wsX6_checkArgument := goodIn_ca (goodIn_r _ [4, 5, 6] (by decide +kernel) (by decide +kernel)) (goodIn_sub (fun _ h => List.mem_cons_of_mem _ (List.mem_append_left _ (List.mem_append_right _ h))) (by decide +kernel))
set_option maxRecDepth 20000 in
theorem gX6_distinctItem_X6_checkArgument : GoodIn wsX6_distinctItem (va_wsS RX6 37 yX6_checkArgument wsX6_checkArgument) := goodIn_app (goodIn_of _ (by decide +kernel)) ggX6_distinctItem_X6_checkArgument
set_option maxRecDepth 20000 in
theorem ggX6_distinctItem_X6_distinctOf : GoodIn wsX6_distinctItem wsX6_distinctOf := goodIn_r _ [10, 11, 12, 13, 14, 15, 16, 17, 3, 18, 19, 20, 21, 22, 23, 24, 25, 26, 27, 28, 29, 30, 31, 32, 33, 34, 35, 36, 37, 38, 39, 40, 41, 42, 43, 44, 45, 46, 47, 48, 49, 50, 51, 52, 53, 54, 55, 56, 66, 67, 68, 69, 70, 71, 72, 73, 74, 75, 76, 77, 78, 79, 80, 81, 62, 63, 64, 65] (by decide +kernel) (by decide +kernel)
set_option maxRecDepth 20000 in
theorem gX6_distinctItem_X6_distinctOf : GoodIn wsX6_distinctItem (wsV RX6 124 RX6 yX6_distinctOf wsX6_distinctOf) := goodIn_app (goodIn_of _ (by decide +kernel)) ggX6_distinctItem_X6_distinctOf
set_option maxRecDepth 20000 in
theorem ggX6_distinctItem_X6_checkPlace : GoodIn wsX6_distinctItem wsX6_checkPlace := goodIn_ca (goodIn_r _ [59, 60, 61] (by decide +kernel) (by decide +kernel)) (goodIn_sub (fun _ h => List.mem_cons_of_mem _ (List.mem_append_right _ h)) (by decide +kernel))
set_option maxRecDepth 20000 in
theorem gX6_distinctItem_X6_checkPlace : GoodIn wsX6_distinctItem (va_wsS RX6 83 yX6_checkPlace wsX6_checkPlace) := goodIn_app (goodIn_of _ (by decide +kernel)) ggX6_distinctItem_X6_checkPlace
set_option maxRecDepth 20000 in
theorem ggX6_distinctItem_X6_at : GoodIn wsX6_distinctItem wsX6_at := goodIn_r _ [33] (by decide +kernel) (by decide +kernel)
set_option maxRecDepth 20000 in
theorem gX6_distinctItem_X6_at : GoodIn wsX6_distinctItem (va_wsS RX6 90 yX6_at wsX6_at) := goodIn_app (goodIn_of _ (by decide +kernel)) ggX6_distinctItem_X6_at
theorem dX6_distinctItem_0 : decode cX6_distinctItem 0 = .ok (.iload_n 1, 1) := by decide +kernel
theorem dX6_distinctItem_1 : decode cX6_distinctItem 1 = .ok (.iconst 0, 1) := by decide +kernel
theorem dX6_distinctItem_2 : decode cX6_distinctItem 2 = .ok (.iconst 2, 1) := by decide +kernel
theorem dX6_distinctItem_3 : decode cX6_distinctItem 3 = .ok (.invokestatic 37, 3) := by decide +kernel
theorem dX6_distinctItem_6 : decode cX6_distinctItem 6 = .ok (.aload_n 0, 1) := by decide +kernel
theorem dX6_distinctItem_7 : decode cX6_distinctItem 7 = .ok (.iload_n 1, 1) := by decide +kernel
theorem dX6_distinctItem_8 : decode cX6_distinctItem 8 = .ok (.invokevirtual 124, 3) := by decide +kernel
theorem dX6_distinctItem_11 : decode cX6_distinctItem 11 = .ok (.astore_n 3, 1) := by decide +kernel
theorem dX6_distinctItem_12 : decode cX6_distinctItem 12 = .ok (.iload_n 2, 1) := by decide +kernel
theorem dX6_distinctItem_13 : decode cX6_distinctItem 13 = .ok (.aload_n 3, 1) := by decide +kernel
theorem dX6_distinctItem_14 : decode cX6_distinctItem 14 = .ok (.getfield 128, 3) := by decide +kernel
theorem dX6_distinctItem_17 : decode cX6_distinctItem 17 = .ok (.invokestatic 83, 3) := by decide +kernel
theorem dX6_distinctItem_20 : decode cX6_distinctItem 20 = .ok (.aload_n 3, 1) := by decide +kernel
theorem dX6_distinctItem_21 : decode cX6_distinctItem 21 = .ok (.getfield 131, 3) := by decide +kernel
theorem dX6_distinctItem_24 : decode cX6_distinctItem 24 = .ok (.iload_n 2, 1) := by decide +kernel
theorem dX6_distinctItem_25 : decode cX6_distinctItem 25 = .ok (.invokestatic 90, 3) := by decide +kernel
theorem dX6_distinctItem_28 : decode cX6_distinctItem 28 = .ok (.ireturn, 1) := by decide +kernel
set_option maxRecDepth 20000 in
theorem ggX6_distinctOffers_X6_checkArgument : GoodIn wsX6_distinctOffers wsX6_checkArgument := goodIn_ca (goodIn_r _ [4, 5, 6] (by decide +kernel) (by decide +kernel)) (goodIn_sub (fun _ h => List.mem_cons_of_mem _ (List.mem_append_left _ (List.mem_append_right _ h))) (by decide +kernel))
set_option maxRecDepth 20000 in
theorem gX6_distinctOffers_X6_checkArgument : GoodIn wsX6_distinctOffers (va_wsS RX6 37 yX6_checkArgument wsX6_checkArgument) := goodIn_app (goodIn_of _ (by decide +kernel)) ggX6_distinctOffers_X6_checkArgument
set_option maxRecDepth 20000 in
theorem ggX6_distinctOffers_X6_distinctOf : GoodIn wsX6_distinctOffers wsX6_distinctOf := goodIn_r _ [10, 11, 12, 13, 14, 15, 16, 17, 3, 18, 19, 20, 21, 22, 23, 24, 25, 26, 27, 28, 29, 30, 31, 32, 33, 34, 35, 36, 37, 38, 39, 40, 41, 42, 43, 44, 45, 46, 47, 48, 49, 50, 51, 52, 53, 54, 55, 56, 66, 67, 68, 69, 70, 71, 72, 73, 74, 75, 76, 77, 78, 79, 80, 81, 62, 63, 64, 65] (by decide +kernel) (by decide +kernel)
set_option maxRecDepth 20000 in
theorem gX6_distinctOffers_X6_distinctOf : GoodIn wsX6_distinctOffers (wsV RX6 124 RX6 yX6_distinctOf wsX6_distinctOf) := goodIn_app (goodIn_of _ (by decide +kernel)) ggX6_distinctOffers_X6_distinctOf
set_option maxRecDepth 20000 in
theorem ggX6_distinctOffers_X6_checkPlace : GoodIn wsX6_distinctOffers wsX6_checkPlace := goodIn_ca (goodIn_r _ [59, 60, 61] (by decide +kernel) (by decide +kernel)) (goodIn_sub (fun _ h => List.mem_cons_of_mem _ (List.mem_append_right _ h)) (by decide +kernel))
set_option maxRecDepth 20000 in
theorem gX6_distinctOffers_X6_checkPlace : GoodIn wsX6_distinctOffers (va_wsS RX6 83 yX6_checkPlace wsX6_checkPlace) := goodIn_app (goodIn_of _ (by decide +kernel)) ggX6_distinctOffers_X6_checkPlace
set_option maxRecDepth 20000 in
theorem ggX6_distinctOffers_X6_at : GoodIn wsX6_distinctOffers wsX6_at := goodIn_r _ [33] (by decide +kernel) (by decide +kernel)
set_option maxRecDepth 20000 in
theorem gX6_distinctOffers_X6_at : GoodIn wsX6_distinctOffers (va_wsS RX6 90 yX6_at wsX6_at) := goodIn_app (goodIn_of _ (by decide +kernel)) ggX6_distinctOffers_X6_at
theorem dX6_distinctOffers_0 : decode cX6_distinctOffers 0 = .ok (.iload_n 1, 1) := by decide +kernel
theorem dX6_distinctOffers_1 : decode cX6_distinctOffers 1 = .ok (.iconst 0, 1) := by decide +kernel
theorem dX6_distinctOffers_2 : decode cX6_distinctOffers 2 = .ok (.iconst 2, 1) := by decide +kernel
theorem dX6_distinctOffers_3 : decode cX6_distinctOffers 3 = .ok (.invokestatic 37, 3) := by decide +kernel
theorem dX6_distinctOffers_6 : decode cX6_distinctOffers 6 = .ok (.aload_n 0, 1) := by decide +kernel
theorem dX6_distinctOffers_7 : decode cX6_distinctOffers 7 = .ok (.iload_n 1, 1) := by decide +kernel
theorem dX6_distinctOffers_8 : decode cX6_distinctOffers 8 = .ok (.invokevirtual 124, 3) := by decide +kernel
theorem dX6_distinctOffers_11 : decode cX6_distinctOffers 11 = .ok (.astore_n 3, 1) := by decide +kernel
theorem dX6_distinctOffers_12 : decode cX6_distinctOffers 12 = .ok (.iload_n 2, 1) := by decide +kernel
theorem dX6_distinctOffers_13 : decode cX6_distinctOffers 13 = .ok (.aload_n 3, 1) := by decide +kernel
theorem dX6_distinctOffers_14 : decode cX6_distinctOffers 14 = .ok (.getfield 128, 3) := by decide +kernel
theorem dX6_distinctOffers_17 : decode cX6_distinctOffers 17 = .ok (.invokestatic 83, 3) := by decide +kernel
theorem dX6_distinctOffers_20 : decode cX6_distinctOffers 20 = .ok (.aload_n 3, 1) := by decide +kernel
theorem dX6_distinctOffers_21 : decode cX6_distinctOffers 21 = .ok (.getfield 132, 3) := by decide +kernel
theorem dX6_distinctOffers_24 : decode cX6_distinctOffers 24 = .ok (.iload_n 2, 1) := by decide +kernel
theorem dX6_distinctOffers_25 : decode cX6_distinctOffers 25 = .ok (.invokestatic 90, 3) := by decide +kernel
theorem dX6_distinctOffers_28 : decode cX6_distinctOffers 28 = .ok (.ireturn, 1) := by decide +kernel
set_option maxRecDepth 20000 in
theorem ggX6_distinctEstimate_X6_checkArgument : GoodIn wsX6_distinctEstimate wsX6_checkArgument := goodIn_ca (goodIn_r _ [4, 5, 6] (by decide +kernel) (by decide +kernel)) (goodIn_sub (fun _ h => List.mem_cons_of_mem _ (List.mem_append_right _ h)) (by decide +kernel))
set_option maxRecDepth 20000 in
theorem gX6_distinctEstimate_X6_checkArgument : GoodIn wsX6_distinctEstimate (va_wsS RX6 37 yX6_checkArgument wsX6_checkArgument) := goodIn_app (goodIn_of _ (by decide +kernel)) ggX6_distinctEstimate_X6_checkArgument
set_option maxRecDepth 20000 in
theorem ggX6_distinctEstimate_X6_distinctOf : GoodIn wsX6_distinctEstimate wsX6_distinctOf := goodIn_r _ [10, 11, 12, 13, 14, 15, 16, 17, 3, 18, 19, 20, 21, 22, 23, 24, 25, 26, 27, 28, 29, 30, 31, 32, 33, 34, 35, 36, 37, 38, 39, 40, 41, 42, 43, 44, 45, 46, 47, 48, 49, 50, 51, 52, 53, 54, 55, 56, 63, 64, 65, 66, 67, 68, 69, 70, 71, 72, 73, 74, 75, 76, 77, 78, 79, 80, 81, 82] (by decide +kernel) (by decide +kernel)
set_option maxRecDepth 20000 in
theorem gX6_distinctEstimate_X6_distinctOf : GoodIn wsX6_distinctEstimate (wsV RX6 124 RX6 yX6_distinctOf wsX6_distinctOf) := goodIn_app (goodIn_of _ (by decide +kernel)) ggX6_distinctEstimate_X6_distinctOf
set_option maxRecDepth 20000 in
theorem ggX6_distinctEstimate_X1_estimatedCount : GoodIn wsX6_distinctEstimate wsX1_estimatedCount := goodIn_r _ [60, 25, 24, 50, 30, 32, 3, 33, 46, 47, 22, 48, 49, 61, 62, 79, 80, 81, 82] (by decide +kernel) (by decide +kernel)
set_option maxRecDepth 20000 in
theorem gX6_distinctEstimate_X1_estimatedCount : GoodIn wsX6_distinctEstimate (wsV RX6 135 RX1 yX1_estimatedCount wsX1_estimatedCount) := goodIn_app (goodIn_of _ (by decide +kernel)) ggX6_distinctEstimate_X1_estimatedCount
theorem dX6_distinctEstimate_0 : decode cX6_distinctEstimate 0 = .ok (.iload_n 1, 1) := by decide +kernel
theorem dX6_distinctEstimate_1 : decode cX6_distinctEstimate 1 = .ok (.iconst 0, 1) := by decide +kernel
theorem dX6_distinctEstimate_2 : decode cX6_distinctEstimate 2 = .ok (.iconst 2, 1) := by decide +kernel
theorem dX6_distinctEstimate_3 : decode cX6_distinctEstimate 3 = .ok (.invokestatic 37, 3) := by decide +kernel
theorem dX6_distinctEstimate_6 : decode cX6_distinctEstimate 6 = .ok (.aload_n 0, 1) := by decide +kernel
theorem dX6_distinctEstimate_7 : decode cX6_distinctEstimate 7 = .ok (.iload_n 1, 1) := by decide +kernel
theorem dX6_distinctEstimate_8 : decode cX6_distinctEstimate 8 = .ok (.invokevirtual 124, 3) := by decide +kernel
theorem dX6_distinctEstimate_11 : decode cX6_distinctEstimate 11 = .ok (.invokevirtual 135, 3) := by decide +kernel
theorem dX6_distinctEstimate_14 : decode cX6_distinctEstimate 14 = .ok (.lreturn, 1) := by decide +kernel
set_option maxRecDepth 20000 in
theorem ggX6_windowItem_X6_checkArgument : GoodIn wsX6_windowItem wsX6_checkArgument := goodIn_ca (goodIn_r _ [4, 5, 6] (by decide +kernel) (by decide +kernel)) (goodIn_sub (fun _ h => List.mem_cons_of_mem _ (List.mem_append_left _ (List.mem_append_right _ h))) (by decide +kernel))
set_option maxRecDepth 20000 in
theorem gX6_windowItem_X6_checkArgument : GoodIn wsX6_windowItem (va_wsS RX6 37 yX6_checkArgument wsX6_checkArgument) := goodIn_app (goodIn_of _ (by decide +kernel)) ggX6_windowItem_X6_checkArgument
set_option maxRecDepth 20000 in
theorem ggX6_windowItem_X6_streamOf : GoodIn wsX6_windowItem wsX6_streamOf := goodIn_r _ [10, 11, 12, 38, 39, 40, 41, 42] (by decide +kernel) (by decide +kernel)
set_option maxRecDepth 20000 in
theorem gX6_windowItem_X6_streamOf : GoodIn wsX6_windowItem (wsV RX6 45 RX6 yX6_streamOf wsX6_streamOf) := goodIn_app (goodIn_of _ (by decide +kernel)) ggX6_windowItem_X6_streamOf
set_option maxRecDepth 20000 in
theorem ggX6_windowItem_X6_checkState : GoodIn wsX6_windowItem wsX6_checkState := goodIn_ca (goodIn_r _ [15, 16, 17] (by decide +kernel) (by decide +kernel)) (goodIn_sub (fun _ h => List.mem_cons_of_mem _ (List.mem_append_right _ h)) (by decide +kernel))
set_option maxRecDepth 20000 in
theorem gX6_windowItem_X6_checkState : GoodIn wsX6_windowItem (va_wsS RX6 53 yX6_checkState wsX6_checkState) := goodIn_app (goodIn_of _ (by decide +kernel)) ggX6_windowItem_X6_checkState
set_option maxRecDepth 20000 in
theorem ggX6_windowItem_X6_at : GoodIn wsX6_windowItem wsX6_at := goodIn_r _ [20] (by decide +kernel) (by decide +kernel)
set_option maxRecDepth 20000 in
theorem gX6_windowItem_X6_at : GoodIn wsX6_windowItem (va_wsS RX6 90 yX6_at wsX6_at) := goodIn_app (goodIn_of _ (by decide +kernel)) ggX6_windowItem_X6_at
theorem dX6_windowItem_0 : decode cX6_windowItem 0 = .ok (.iload_n 1, 1) := by decide +kernel
theorem dX6_windowItem_1 : decode cX6_windowItem 1 = .ok (.iconst 0, 1) := by decide +kernel
theorem dX6_windowItem_2 : decode cX6_windowItem 2 = .ok (.iconst 1, 1) := by decide +kernel
theorem dX6_windowItem_3 : decode cX6_windowItem 3 = .ok (.invokestatic 37, 3) := by decide +kernel
theorem dX6_windowItem_6 : decode cX6_windowItem 6 = .ok (.aload_n 0, 1) := by decide +kernel
theorem dX6_windowItem_7 : decode cX6_windowItem 7 = .ok (.iload_n 1, 1) := by decide +kernel
theorem dX6_windowItem_8 : decode cX6_windowItem 8 = .ok (.invokevirtual 45, 3) := by decide +kernel
theorem dX6_windowItem_11 : decode cX6_windowItem 11 = .ok (.astore_n 2, 1) := by decide +kernel
theorem dX6_windowItem_12 : decode cX6_windowItem 12 = .ok (.aload_n 2, 1) := by decide +kernel
theorem dX6_windowItem_13 : decode cX6_windowItem 13 = .ok (.getfield 49, 3) := by decide +kernel
theorem dX6_windowItem_16 : decode cX6_windowItem 16 = .ok (.ifCond .le 7, 3) := by decide +kernel
theorem dX6_windowItem_19 : decode cX6_windowItem 19 = .ok (.iconst 1, 1) := by decide +kernel
theorem dX6_windowItem_20 : decode cX6_windowItem 20 = .ok (.goto 4, 3) := by decide +kernel
theorem dX6_windowItem_23 : decode cX6_windowItem 23 = .ok (.iconst 0, 1) := by decide +kernel
theorem dX6_windowItem_24 : decode cX6_windowItem 24 = .ok (.invokestatic 53, 3) := by decide +kernel
theorem dX6_windowItem_27 : decode cX6_windowItem 27 = .ok (.aload_n 2, 1) := by decide +kernel
theorem dX6_windowItem_28 : decode cX6_windowItem 28 = .ok (.getfield 138, 3) := by decide +kernel
theorem dX6_windowItem_31 : decode cX6_windowItem 31 = .ok (.getfield 142, 3) := by decide +kernel
theorem dX6_windowItem_34 : decode cX6_windowItem 34 = .ok (.aload_n 2, 1) := by decide +kernel
theorem dX6_windowItem_35 : decode cX6_windowItem 35 = .ok (.getfield 138, 3) := by decide +kernel
theorem dX6_windowItem_38 : decode cX6_windowItem 38 = .ok (.getfield 145, 3) := by decide +kernel
theorem dX6_windowItem_41 : decode cX6_windowItem 41 = .ok (.invokestatic 90, 3) := by decide +kernel
theorem dX6_windowItem_44 : decode cX6_windowItem 44 = .ok (.ireturn, 1) := by decide +kernel
set_option maxRecDepth 20000 in
theorem ggX6_windowPosition_X6_checkArgument : GoodIn wsX6_windowPosition wsX6_checkArgument := goodIn_ca (goodIn_r _ [4, 5, 6] (by decide +kernel) (by decide +kernel)) (goodIn_sub (fun _ h => List.mem_cons_of_mem _ (List.mem_append_left _ (List.mem_append_right _ h))) (by decide +kernel))
set_option maxRecDepth 20000 in
theorem gX6_windowPosition_X6_checkArgument : GoodIn wsX6_windowPosition (va_wsS RX6 37 yX6_checkArgument wsX6_checkArgument) := goodIn_app (goodIn_of _ (by decide +kernel)) ggX6_windowPosition_X6_checkArgument
set_option maxRecDepth 20000 in
theorem ggX6_windowPosition_X6_streamOf : GoodIn wsX6_windowPosition wsX6_streamOf := goodIn_r _ [10, 11, 12, 38, 39, 40, 41, 42] (by decide +kernel) (by decide +kernel)
set_option maxRecDepth 20000 in
theorem gX6_windowPosition_X6_streamOf : GoodIn wsX6_windowPosition (wsV RX6 45 RX6 yX6_streamOf wsX6_streamOf) := goodIn_app (goodIn_of _ (by decide +kernel)) ggX6_windowPosition_X6_streamOf
set_option maxRecDepth 20000 in
theorem ggX6_windowPosition_X6_checkState : GoodIn wsX6_windowPosition wsX6_checkState := goodIn_ca (goodIn_r _ [15, 16, 17] (by decide +kernel) (by decide +kernel)) (goodIn_sub (fun _ h => List.mem_cons_of_mem _ (List.mem_append_right _ h)) (by decide +kernel))
set_option maxRecDepth 20000 in
theorem gX6_windowPosition_X6_checkState : GoodIn wsX6_windowPosition (va_wsS RX6 53 yX6_checkState wsX6_checkState) := goodIn_app (goodIn_of _ (by decide +kernel)) ggX6_windowPosition_X6_checkState
set_option maxRecDepth 20000 in
theorem ggX6_windowPosition_X6_at : GoodIn wsX6_windowPosition wsX6_at := goodIn_r _ [20] (by decide +kernel) (by decide +kernel)
set_option maxRecDepth 20000 in
theorem gX6_windowPosition_X6_at : GoodIn wsX6_windowPosition (va_wsS RX6 90 yX6_at wsX6_at) := goodIn_app (goodIn_of _ (by decide +kernel)) ggX6_windowPosition_X6_at
theorem dX6_windowPosition_0 : decode cX6_windowPosition 0 = .ok (.iload_n 1, 1) := by decide +kernel
theorem dX6_windowPosition_1 : decode cX6_windowPosition 1 = .ok (.iconst 0, 1) := by decide +kernel
theorem dX6_windowPosition_2 : decode cX6_windowPosition 2 = .ok (.iconst 1, 1) := by decide +kernel
theorem dX6_windowPosition_3 : decode cX6_windowPosition 3 = .ok (.invokestatic 37, 3) := by decide +kernel
theorem dX6_windowPosition_6 : decode cX6_windowPosition 6 = .ok (.aload_n 0, 1) := by decide +kernel
theorem dX6_windowPosition_7 : decode cX6_windowPosition 7 = .ok (.iload_n 1, 1) := by decide +kernel
theorem dX6_windowPosition_8 : decode cX6_windowPosition 8 = .ok (.invokevirtual 45, 3) := by decide +kernel
theorem dX6_windowPosition_11 : decode cX6_windowPosition 11 = .ok (.astore_n 2, 1) := by decide +kernel
theorem dX6_windowPosition_12 : decode cX6_windowPosition 12 = .ok (.aload_n 2, 1) := by decide +kernel
theorem dX6_windowPosition_13 : decode cX6_windowPosition 13 = .ok (.getfield 49, 3) := by decide +kernel
theorem dX6_windowPosition_16 : decode cX6_windowPosition 16 = .ok (.ifCond .le 7, 3) := by decide +kernel
theorem dX6_windowPosition_19 : decode cX6_windowPosition 19 = .ok (.iconst 1, 1) := by decide +kernel
theorem dX6_windowPosition_20 : decode cX6_windowPosition 20 = .ok (.goto 4, 3) := by decide +kernel
theorem dX6_windowPosition_23 : decode cX6_windowPosition 23 = .ok (.iconst 0, 1) := by decide +kernel
theorem dX6_windowPosition_24 : decode cX6_windowPosition 24 = .ok (.invokestatic 53, 3) := by decide +kernel
theorem dX6_windowPosition_27 : decode cX6_windowPosition 27 = .ok (.aload_n 2, 1) := by decide +kernel
theorem dX6_windowPosition_28 : decode cX6_windowPosition 28 = .ok (.getfield 138, 3) := by decide +kernel
theorem dX6_windowPosition_31 : decode cX6_windowPosition 31 = .ok (.getfield 148, 3) := by decide +kernel
theorem dX6_windowPosition_34 : decode cX6_windowPosition 34 = .ok (.aload_n 2, 1) := by decide +kernel
theorem dX6_windowPosition_35 : decode cX6_windowPosition 35 = .ok (.getfield 138, 3) := by decide +kernel
theorem dX6_windowPosition_38 : decode cX6_windowPosition 38 = .ok (.getfield 145, 3) := by decide +kernel
theorem dX6_windowPosition_41 : decode cX6_windowPosition 41 = .ok (.invokestatic 90, 3) := by decide +kernel
theorem dX6_windowPosition_44 : decode cX6_windowPosition 44 = .ok (.ireturn, 1) := by decide +kernel
set_option maxRecDepth 20000 in
theorem ggX6_chainLength_X6_checkArgument : GoodIn wsX6_chainLength wsX6_checkArgument := goodIn_ca (goodIn_r _ [4, 5, 6] (by decide +kernel) (by decide +kernel)) (goodIn_sub (fun _ h => List.mem_cons_of_mem _ (List.mem_append_right _ h)) (by decide +kernel))
set_option maxRecDepth 20000 in
theorem gX6_chainLength_X6_checkArgument : GoodIn wsX6_chainLength (va_wsS RX6 37 yX6_checkArgument wsX6_checkArgument) := goodIn_app (goodIn_of _ (by decide +kernel)) ggX6_chainLength_X6_checkArgument
set_option maxRecDepth 20000 in
theorem ggX6_chainLength_X6_streamOf : GoodIn wsX6_chainLength wsX6_streamOf := goodIn_r _ [10, 11, 12, 31, 32, 33, 34, 35] (by decide +kernel) (by decide +kernel)
set_option maxRecDepth 20000 in
theorem gX6_chainLength_X6_streamOf : GoodIn wsX6_chainLength (wsV RX6 45 RX6 yX6_streamOf wsX6_streamOf) := goodIn_app (goodIn_of _ (by decide +kernel)) ggX6_chainLength_X6_streamOf
set_option maxRecDepth 20000 in
theorem ggX6_chainLength_X0_length : GoodIn wsX6_chainLength wsX0_length := goodIn_r _ [17, 18, 19, 36, 37, 38, 39, 40, 41] (by decide +kernel) (by decide +kernel)
set_option maxRecDepth 20000 in
theorem gX6_chainLength_X0_length : GoodIn wsX6_chainLength (wsV RX6 149 RX0 yX0_length wsX0_length) := goodIn_app (goodIn_of _ (by decide +kernel)) ggX6_chainLength_X0_length
theorem dX6_chainLength_0 : decode cX6_chainLength 0 = .ok (.iload_n 1, 1) := by decide +kernel
theorem dX6_chainLength_1 : decode cX6_chainLength 1 = .ok (.iconst 0, 1) := by decide +kernel
theorem dX6_chainLength_2 : decode cX6_chainLength 2 = .ok (.iconst 1, 1) := by decide +kernel
theorem dX6_chainLength_3 : decode cX6_chainLength 3 = .ok (.invokestatic 37, 3) := by decide +kernel
theorem dX6_chainLength_6 : decode cX6_chainLength 6 = .ok (.aload_n 0, 1) := by decide +kernel
theorem dX6_chainLength_7 : decode cX6_chainLength 7 = .ok (.iload_n 1, 1) := by decide +kernel
theorem dX6_chainLength_8 : decode cX6_chainLength 8 = .ok (.invokevirtual 45, 3) := by decide +kernel
theorem dX6_chainLength_11 : decode cX6_chainLength 11 = .ok (.getfield 138, 3) := by decide +kernel
theorem dX6_chainLength_14 : decode cX6_chainLength 14 = .ok (.invokevirtual 149, 3) := by decide +kernel
theorem dX6_chainLength_17 : decode cX6_chainLength 17 = .ok (.ireturn, 1) := by decide +kernel
set_option maxRecDepth 20000 in
theorem ggX6_successor_X6_checkArgument : GoodIn wsX6_successor wsX6_checkArgument := goodIn_ca (goodIn_r _ [4, 5, 6] (by decide +kernel) (by decide +kernel)) (goodIn_sub (fun _ h => List.mem_cons_of_mem _ (List.mem_append_left _ (List.mem_append_right _ h))) (by decide +kernel))
set_option maxRecDepth 20000 in
theorem gX6_successor_X6_checkArgument : GoodIn wsX6_successor (va_wsS RX6 37 yX6_checkArgument wsX6_checkArgument) := goodIn_app (goodIn_of _ (by decide +kernel)) ggX6_successor_X6_checkArgument
set_option maxRecDepth 20000 in
theorem ggX6_successor_X6_streamOf : GoodIn wsX6_successor wsX6_streamOf := goodIn_r _ [10, 11, 12, 35, 36, 37, 38, 39] (by decide +kernel) (by decide +kernel)
set_option maxRecDepth 20000 in
theorem gX6_successor_X6_streamOf : GoodIn wsX6_successor (wsV RX6 45 RX6 yX6_streamOf wsX6_streamOf) := goodIn_app (goodIn_of _ (by decide +kernel)) ggX6_successor_X6_streamOf
end
section
set_option maxRecDepth 20000 in
theorem ggX6_successor_X6_checkState : GoodIn wsX6_successor wsX6_checkState := goodIn_ca (goodIn_r _ [15, 16, 17] (by decide +kernel) (by decide +kernel)) (goodIn_sub (fun _ h => List.mem_cons_of_mem _ (List.mem_append_right _ h)) (by decide +kernel))
set_option maxRecDepth 20000 in
theorem gX6_successor_X6_checkState : GoodIn wsX6_successor (va_wsS RX6 53 yX6_checkState wsX6_checkState) := goodIn_app (goodIn_of _ (by decide +kernel)) ggX6_successor_X6_checkState
theorem dX6_successor_0 : decode cX6_successor 0 = .ok (.iload_n 1, 1) := by decide +kernel
theorem dX6_successor_1 : decode cX6_successor 1 = .ok (.iconst 0, 1) := by decide +kernel
theorem dX6_successor_2 : decode cX6_successor 2 = .ok (.iconst 1, 1) := by decide +kernel
theorem dX6_successor_3 : decode cX6_successor 3 = .ok (.invokestatic 37, 3) := by decide +kernel
theorem dX6_successor_6 : decode cX6_successor 6 = .ok (.aload_n 0, 1) := by decide +kernel
theorem dX6_successor_7 : decode cX6_successor 7 = .ok (.iload_n 1, 1) := by decide +kernel
theorem dX6_successor_8 : decode cX6_successor 8 = .ok (.invokevirtual 45, 3) := by decide +kernel
theorem dX6_successor_11 : decode cX6_successor 11 = .ok (.astore_n 2, 1) := by decide +kernel
theorem dX6_successor_12 : decode cX6_successor 12 = .ok (.aload_n 2, 1) := by decide +kernel
theorem dX6_successor_13 : decode cX6_successor 13 = .ok (.getfield 49, 3) := by decide +kernel
theorem dX6_successor_16 : decode cX6_successor 16 = .ok (.ifCond .le 7, 3) := by decide +kernel
theorem dX6_successor_19 : decode cX6_successor 19 = .ok (.iconst 1, 1) := by decide +kernel
theorem dX6_successor_20 : decode cX6_successor 20 = .ok (.goto 4, 3) := by decide +kernel
theorem dX6_successor_23 : decode cX6_successor 23 = .ok (.iconst 0, 1) := by decide +kernel
theorem dX6_successor_24 : decode cX6_successor 24 = .ok (.invokestatic 53, 3) := by decide +kernel
theorem dX6_successor_27 : decode cX6_successor 27 = .ok (.aload_n 2, 1) := by decide +kernel
theorem dX6_successor_28 : decode cX6_successor 28 = .ok (.getfield 138, 3) := by decide +kernel
theorem dX6_successor_31 : decode cX6_successor 31 = .ok (.getfield 152, 3) := by decide +kernel
theorem dX6_successor_34 : decode cX6_successor 34 = .ok (.ireturn, 1) := by decide +kernel
set_option maxRecDepth 20000 in
theorem ggX6_startAgain_X5_startAgain : GoodIn wsX6_startAgain wsX5_startAgain := goodIn_r _ [8, 9, 10, 11, 12, 13, 7, 14, 15, 16, 17, 18, 19, 20, 21, 22, 23, 24, 25, 26, 27, 28, 29, 30, 31, 32, 33, 34, 35, 36, 37, 38, 39, 40, 41, 42, 43, 44, 45, 46, 47, 48, 49, 50, 51, 52, 53, 54, 55, 56, 57, 58, 59, 60, 61, 67, 68, 69, 70, 71, 72, 73, 74, 75, 76, 77, 78, 79, 80, 81, 82, 83, 84, 85, 86, 87, 88, 89, 90, 91, 92, 93, 94, 95, 96, 97, 98, 99] (by decide +kernel) (by decide +kernel)
set_option maxRecDepth 20000 in
theorem gX6_startAgain_X5_startAgain : GoodIn wsX6_startAgain (wsV RX6 158 RX5 yX5_startAgain wsX5_startAgain) := goodIn_app (goodIn_of _ (by decide +kernel)) ggX6_startAgain_X5_startAgain
theorem dX6_startAgain_0 : decode cX6_startAgain 0 = .ok (.aload_n 0, 1) := by decide +kernel
theorem dX6_startAgain_1 : decode cX6_startAgain 1 = .ok (.iload_n 1, 1) := by decide +kernel
theorem dX6_startAgain_2 : decode cX6_startAgain 2 = .ok (.putfield 155, 3) := by decide +kernel
theorem dX6_startAgain_5 : decode cX6_startAgain 5 = .ok (.aload_n 0, 1) := by decide +kernel
theorem dX6_startAgain_6 : decode cX6_startAgain 6 = .ok (.getfield 10, 3) := by decide +kernel
theorem dX6_startAgain_9 : decode cX6_startAgain 9 = .ok (.iload_n 1, 1) := by decide +kernel
theorem dX6_startAgain_10 : decode cX6_startAgain 10 = .ok (.iload_n 2, 1) := by decide +kernel
theorem dX6_startAgain_11 : decode cX6_startAgain 11 = .ok (.invokevirtual 158, 3) := by decide +kernel
theorem dX6_startAgain_14 : decode cX6_startAgain 14 = .ok (.aload_n 0, 1) := by decide +kernel
theorem dX6_startAgain_15 : decode cX6_startAgain 15 = .ok (.getfield 16, 3) := by decide +kernel
theorem dX6_startAgain_18 : decode cX6_startAgain 18 = .ok (.iload_n 1, 1) := by decide +kernel
theorem dX6_startAgain_19 : decode cX6_startAgain 19 = .ok (.iload_n 2, 1) := by decide +kernel
theorem dX6_startAgain_20 : decode cX6_startAgain 20 = .ok (.invokevirtual 158, 3) := by decide +kernel
theorem dX6_startAgain_23 : decode cX6_startAgain 23 = .ok (.return_, 1) := by decide +kernel
theorem dX6_streamOf_0 : decode cX6_streamOf 0 = .ok (.iload_n 1, 1) := by decide +kernel
theorem dX6_streamOf_1 : decode cX6_streamOf 1 = .ok (.ifCond .ne 10, 3) := by decide +kernel
theorem dX6_streamOf_4 : decode cX6_streamOf 4 = .ok (.aload_n 0, 1) := by decide +kernel
theorem dX6_streamOf_5 : decode cX6_streamOf 5 = .ok (.getfield 10, 3) := by decide +kernel
theorem dX6_streamOf_8 : decode cX6_streamOf 8 = .ok (.goto 7, 3) := by decide +kernel
theorem dX6_streamOf_11 : decode cX6_streamOf 11 = .ok (.aload_n 0, 1) := by decide +kernel
theorem dX6_streamOf_12 : decode cX6_streamOf 12 = .ok (.getfield 16, 3) := by decide +kernel
theorem dX6_streamOf_15 : decode cX6_streamOf 15 = .ok (.areturn, 1) := by decide +kernel
set_option maxRecDepth 20000 in
theorem ggX6_prioritiesOf_X6_streamOf : GoodIn wsX6_prioritiesOf wsX6_streamOf := goodIn_r _ [9, 3, 4, 60, 61, 62, 63, 64] (by decide +kernel) (by decide +kernel)
set_option maxRecDepth 20000 in
theorem gX6_prioritiesOf_X6_streamOf : GoodIn wsX6_prioritiesOf (wsV RX6 45 RX6 yX6_streamOf wsX6_streamOf) := goodIn_app (goodIn_of _ (by decide +kernel)) ggX6_prioritiesOf_X6_streamOf
set_option maxRecDepth 20000 in
theorem ggX6_prioritiesOf_X3_startAgain : GoodIn wsX6_prioritiesOf wsX3_startAgain := goodIn_r _ [14, 15, 16, 65, 66, 67, 68, 69, 70] (by decide +kernel) (by decide +kernel)
set_option maxRecDepth 20000 in
theorem gX6_prioritiesOf_X3_startAgain : GoodIn wsX6_prioritiesOf (wsV RX6 162 RX3 yX3_startAgain wsX3_startAgain) := goodIn_app (goodIn_of _ (by decide +kernel)) ggX6_prioritiesOf_X3_startAgain
set_option maxRecDepth 20000 in
theorem ggX6_prioritiesOf_X3_addAll : GoodIn wsX6_prioritiesOf wsX3_addAll := goodIn_r _ [20, 16, 21, 22, 23, 24, 25, 8, 26, 27, 28, 29, 13, 30, 15, 31, 32, 33, 34, 35, 36, 37, 38, 39, 40, 41, 42, 43, 44, 45, 46, 47, 48, 65, 66, 67, 68, 69, 70] (by decide +kernel) (by decide +kernel)
set_option maxRecDepth 20000 in
theorem gX6_prioritiesOf_X3_addAll : GoodIn wsX6_prioritiesOf (wsV RX6 165 RX3 yX3_addAll wsX3_addAll) := goodIn_app (goodIn_of _ (by decide +kernel)) ggX6_prioritiesOf_X3_addAll
theorem dX6_prioritiesOf_0 : decode cX6_prioritiesOf 0 = .ok (.iload_n 1, 1) := by decide +kernel
theorem dX6_prioritiesOf_1 : decode cX6_prioritiesOf 1 = .ok (.iconst 2, 1) := by decide +kernel
theorem dX6_prioritiesOf_2 : decode cX6_prioritiesOf 2 = .ok (.if_icmp .eq 12, 3) := by decide +kernel
theorem dX6_prioritiesOf_5 : decode cX6_prioritiesOf 5 = .ok (.aload_n 0, 1) := by decide +kernel
theorem dX6_prioritiesOf_6 : decode cX6_prioritiesOf 6 = .ok (.iload_n 1, 1) := by decide +kernel
theorem dX6_prioritiesOf_7 : decode cX6_prioritiesOf 7 = .ok (.invokevirtual 45, 3) := by decide +kernel
theorem dX6_prioritiesOf_10 : decode cX6_prioritiesOf 10 = .ok (.getfield 159, 3) := by decide +kernel
theorem dX6_prioritiesOf_13 : decode cX6_prioritiesOf 13 = .ok (.areturn, 1) := by decide +kernel
theorem dX6_prioritiesOf_14 : decode cX6_prioritiesOf 14 = .ok (.aload_n 0, 1) := by decide +kernel
theorem dX6_prioritiesOf_15 : decode cX6_prioritiesOf 15 = .ok (.getfield 22, 3) := by decide +kernel
theorem dX6_prioritiesOf_18 : decode cX6_prioritiesOf 18 = .ok (.aload_n 0, 1) := by decide +kernel
theorem dX6_prioritiesOf_19 : decode cX6_prioritiesOf 19 = .ok (.getfield 155, 3) := by decide +kernel
theorem dX6_prioritiesOf_22 : decode cX6_prioritiesOf 22 = .ok (.invokevirtual 162, 3) := by decide +kernel
theorem dX6_prioritiesOf_25 : decode cX6_prioritiesOf 25 = .ok (.aload_n 0, 1) := by decide +kernel
theorem dX6_prioritiesOf_26 : decode cX6_prioritiesOf 26 = .ok (.getfield 22, 3) := by decide +kernel
theorem dX6_prioritiesOf_29 : decode cX6_prioritiesOf 29 = .ok (.aload_n 0, 1) := by decide +kernel
theorem dX6_prioritiesOf_30 : decode cX6_prioritiesOf 30 = .ok (.getfield 10, 3) := by decide +kernel
theorem dX6_prioritiesOf_33 : decode cX6_prioritiesOf 33 = .ok (.getfield 159, 3) := by decide +kernel
theorem dX6_prioritiesOf_36 : decode cX6_prioritiesOf 36 = .ok (.invokevirtual 165, 3) := by decide +kernel
theorem dX6_prioritiesOf_39 : decode cX6_prioritiesOf 39 = .ok (.aload_n 0, 1) := by decide +kernel
theorem dX6_prioritiesOf_40 : decode cX6_prioritiesOf 40 = .ok (.getfield 22, 3) := by decide +kernel
theorem dX6_prioritiesOf_43 : decode cX6_prioritiesOf 43 = .ok (.aload_n 0, 1) := by decide +kernel
theorem dX6_prioritiesOf_44 : decode cX6_prioritiesOf 44 = .ok (.getfield 16, 3) := by decide +kernel
theorem dX6_prioritiesOf_47 : decode cX6_prioritiesOf 47 = .ok (.getfield 159, 3) := by decide +kernel
theorem dX6_prioritiesOf_50 : decode cX6_prioritiesOf 50 = .ok (.invokevirtual 165, 3) := by decide +kernel
theorem dX6_prioritiesOf_53 : decode cX6_prioritiesOf 53 = .ok (.aload_n 0, 1) := by decide +kernel
theorem dX6_prioritiesOf_54 : decode cX6_prioritiesOf 54 = .ok (.getfield 22, 3) := by decide +kernel
theorem dX6_prioritiesOf_57 : decode cX6_prioritiesOf 57 = .ok (.areturn, 1) := by decide +kernel
set_option maxRecDepth 20000 in
theorem ggX6_distinctOf_X6_streamOf : GoodIn wsX6_distinctOf wsX6_streamOf := goodIn_r _ [9, 3, 4, 59, 60, 61, 62, 63] (by decide +kernel) (by decide +kernel)
set_option maxRecDepth 20000 in
theorem gX6_distinctOf_X6_streamOf : GoodIn wsX6_distinctOf (wsV RX6 45 RX6 yX6_streamOf wsX6_streamOf) := goodIn_app (goodIn_of _ (by decide +kernel)) ggX6_distinctOf_X6_streamOf
set_option maxRecDepth 20000 in
theorem ggX6_distinctOf_X1_startAgain : GoodIn wsX6_distinctOf wsX1_startAgain := goodIn_r _ [14, 15, 16, 64, 65, 66, 67] (by decide +kernel) (by decide +kernel)
set_option maxRecDepth 20000 in
theorem gX6_distinctOf_X1_startAgain : GoodIn wsX6_distinctOf (wsV RX6 172 RX1 yX1_startAgain wsX1_startAgain) := goodIn_app (goodIn_of _ (by decide +kernel)) ggX6_distinctOf_X1_startAgain
set_option maxRecDepth 20000 in
theorem ggX6_distinctOf_X1_addAll : GoodIn wsX6_distinctOf wsX1_addAll := goodIn_r _ [20, 16, 21, 22, 23, 8, 24, 25, 26, 27, 13, 28, 15, 29, 30, 31, 32, 33, 34, 35, 36, 37, 38, 39, 40, 41, 42, 43, 44, 45, 46, 47, 64, 65, 66, 67] (by decide +kernel) (by decide +kernel)
set_option maxRecDepth 20000 in
theorem gX6_distinctOf_X1_addAll : GoodIn wsX6_distinctOf (wsV RX6 173 RX1 yX1_addAll wsX1_addAll) := goodIn_app (goodIn_of _ (by decide +kernel)) ggX6_distinctOf_X1_addAll
theorem dX6_distinctOf_0 : decode cX6_distinctOf 0 = .ok (.iload_n 1, 1) := by decide +kernel
theorem dX6_distinctOf_1 : decode cX6_distinctOf 1 = .ok (.iconst 2, 1) := by decide +kernel
theorem dX6_distinctOf_2 : decode cX6_distinctOf 2 = .ok (.if_icmp .eq 12, 3) := by decide +kernel
theorem dX6_distinctOf_5 : decode cX6_distinctOf 5 = .ok (.aload_n 0, 1) := by decide +kernel
theorem dX6_distinctOf_6 : decode cX6_distinctOf 6 = .ok (.iload_n 1, 1) := by decide +kernel
theorem dX6_distinctOf_7 : decode cX6_distinctOf 7 = .ok (.invokevirtual 45, 3) := by decide +kernel
theorem dX6_distinctOf_10 : decode cX6_distinctOf 10 = .ok (.getfield 169, 3) := by decide +kernel
theorem dX6_distinctOf_13 : decode cX6_distinctOf 13 = .ok (.areturn, 1) := by decide +kernel
theorem dX6_distinctOf_14 : decode cX6_distinctOf 14 = .ok (.aload_n 0, 1) := by decide +kernel
theorem dX6_distinctOf_15 : decode cX6_distinctOf 15 = .ok (.getfield 29, 3) := by decide +kernel
theorem dX6_distinctOf_18 : decode cX6_distinctOf 18 = .ok (.aload_n 0, 1) := by decide +kernel
theorem dX6_distinctOf_19 : decode cX6_distinctOf 19 = .ok (.getfield 155, 3) := by decide +kernel
theorem dX6_distinctOf_22 : decode cX6_distinctOf 22 = .ok (.invokevirtual 172, 3) := by decide +kernel
theorem dX6_distinctOf_25 : decode cX6_distinctOf 25 = .ok (.aload_n 0, 1) := by decide +kernel
theorem dX6_distinctOf_26 : decode cX6_distinctOf 26 = .ok (.getfield 29, 3) := by decide +kernel
theorem dX6_distinctOf_29 : decode cX6_distinctOf 29 = .ok (.aload_n 0, 1) := by decide +kernel
theorem dX6_distinctOf_30 : decode cX6_distinctOf 30 = .ok (.getfield 10, 3) := by decide +kernel
theorem dX6_distinctOf_33 : decode cX6_distinctOf 33 = .ok (.getfield 169, 3) := by decide +kernel
theorem dX6_distinctOf_36 : decode cX6_distinctOf 36 = .ok (.invokevirtual 173, 3) := by decide +kernel
theorem dX6_distinctOf_39 : decode cX6_distinctOf 39 = .ok (.aload_n 0, 1) := by decide +kernel
theorem dX6_distinctOf_40 : decode cX6_distinctOf 40 = .ok (.getfield 29, 3) := by decide +kernel
theorem dX6_distinctOf_43 : decode cX6_distinctOf 43 = .ok (.aload_n 0, 1) := by decide +kernel
theorem dX6_distinctOf_44 : decode cX6_distinctOf 44 = .ok (.getfield 16, 3) := by decide +kernel
theorem dX6_distinctOf_47 : decode cX6_distinctOf 47 = .ok (.getfield 169, 3) := by decide +kernel
theorem dX6_distinctOf_50 : decode cX6_distinctOf 50 = .ok (.invokevirtual 173, 3) := by decide +kernel
theorem dX6_distinctOf_53 : decode cX6_distinctOf 53 = .ok (.aload_n 0, 1) := by decide +kernel
theorem dX6_distinctOf_54 : decode cX6_distinctOf 54 = .ok (.getfield 29, 3) := by decide +kernel
theorem dX6_distinctOf_57 : decode cX6_distinctOf 57 = .ok (.areturn, 1) := by decide +kernel
theorem dX6_checkArgument_0 : decode cX6_checkArgument 0 = .ok (.iload_n 0, 1) := by decide +kernel
theorem dX6_checkArgument_1 : decode cX6_checkArgument 1 = .ok (.iload_n 1, 1) := by decide +kernel
theorem dX6_checkArgument_2 : decode cX6_checkArgument 2 = .ok (.if_icmp .lt 8, 3) := by decide +kernel
theorem dX6_checkArgument_5 : decode cX6_checkArgument 5 = .ok (.iload_n 0, 1) := by decide +kernel
theorem dX6_checkArgument_6 : decode cX6_checkArgument 6 = .ok (.iload_n 2, 1) := by decide +kernel
theorem dX6_checkArgument_7 : decode cX6_checkArgument 7 = .ok (.if_icmp .le 13, 3) := by decide +kernel
theorem dX6_checkArgument_10 : decode cX6_checkArgument 10 = .ok (.new 176, 3) := by decide +kernel
theorem dX6_checkArgument_13 : decode cX6_checkArgument 13 = .ok (.dup, 1) := by decide +kernel
theorem dX6_checkArgument_14 : decode cX6_checkArgument 14 = .ok (.ldc 178, 2) := by decide +kernel
theorem dX6_checkArgument_16 : decode cX6_checkArgument 16 = .ok (.invokespecial 180, 3) := by decide +kernel
theorem dX6_checkArgument_19 : decode cX6_checkArgument 19 = .ok (.athrow, 1) := by decide +kernel
theorem dX6_checkArgument_20 : decode cX6_checkArgument 20 = .ok (.return_, 1) := by decide +kernel
theorem dX6_checkState_0 : decode cX6_checkState 0 = .ok (.iload_n 0, 1) := by decide +kernel
theorem dX6_checkState_1 : decode cX6_checkState 1 = .ok (.ifCond .ne 13, 3) := by decide +kernel
theorem dX6_checkState_4 : decode cX6_checkState 4 = .ok (.new 183, 3) := by decide +kernel
theorem dX6_checkState_7 : decode cX6_checkState 7 = .ok (.dup, 1) := by decide +kernel
theorem dX6_checkState_8 : decode cX6_checkState 8 = .ok (.ldc 185, 2) := by decide +kernel
theorem dX6_checkState_10 : decode cX6_checkState 10 = .ok (.invokespecial 187, 3) := by decide +kernel
theorem dX6_checkState_13 : decode cX6_checkState 13 = .ok (.athrow, 1) := by decide +kernel
theorem dX6_checkState_14 : decode cX6_checkState 14 = .ok (.return_, 1) := by decide +kernel
theorem dX6_checkPlace_0 : decode cX6_checkPlace 0 = .ok (.iload_n 0, 1) := by decide +kernel
theorem dX6_checkPlace_1 : decode cX6_checkPlace 1 = .ok (.ifCond .lt 8, 3) := by decide +kernel
theorem dX6_checkPlace_4 : decode cX6_checkPlace 4 = .ok (.iload_n 0, 1) := by decide +kernel
theorem dX6_checkPlace_5 : decode cX6_checkPlace 5 = .ok (.iload_n 1, 1) := by decide +kernel
theorem dX6_checkPlace_6 : decode cX6_checkPlace 6 = .ok (.if_icmp .lt 13, 3) := by decide +kernel
theorem dX6_checkPlace_9 : decode cX6_checkPlace 9 = .ok (.new 188, 3) := by decide +kernel
theorem dX6_checkPlace_12 : decode cX6_checkPlace 12 = .ok (.dup, 1) := by decide +kernel
theorem dX6_checkPlace_13 : decode cX6_checkPlace 13 = .ok (.ldc 190, 2) := by decide +kernel
theorem dX6_checkPlace_15 : decode cX6_checkPlace 15 = .ok (.invokespecial 192, 3) := by decide +kernel
theorem dX6_checkPlace_18 : decode cX6_checkPlace 18 = .ok (.athrow, 1) := by decide +kernel
theorem dX6_checkPlace_19 : decode cX6_checkPlace 19 = .ok (.return_, 1) := by decide +kernel
theorem dX6_at_0 : decode cX6_at 0 = .ok (.iload_n 1, 1) := by decide +kernel
theorem dX6_at_1 : decode cX6_at 1 = .ok (.ifCond .lt 15, 3) := by decide +kernel
theorem dX6_at_4 : decode cX6_at 4 = .ok (.iload_n 1, 1) := by decide +kernel
theorem dX6_at_5 : decode cX6_at 5 = .ok (.aload_n 0, 1) := by decide +kernel
theorem dX6_at_6 : decode cX6_at 6 = .ok (.arraylength, 1) := by decide +kernel
theorem dX6_at_7 : decode cX6_at 7 = .ok (.if_icmp .ge 9, 3) := by decide +kernel
theorem dX6_at_10 : decode cX6_at 10 = .ok (.aload_n 0, 1) := by decide +kernel
theorem dX6_at_11 : decode cX6_at 11 = .ok (.iload_n 1, 1) := by decide +kernel
theorem dX6_at_12 : decode cX6_at 12 = .ok (.iaload, 1) := by decide +kernel
theorem dX6_at_13 : decode cX6_at 13 = .ok (.goto 4, 3) := by decide +kernel
theorem dX6_at_16 : decode cX6_at 16 = .ok (.iconst 0, 1) := by decide +kernel
theorem dX6_at_17 : decode cX6_at 17 = .ok (.ireturn, 1) := by decide +kernel
theorem dX6_put_0 : decode cX6_put 0 = .ok (.iload_n 1, 1) := by decide +kernel
theorem dX6_put_1 : decode cX6_put 1 = .ok (.ifCond .lt 13, 3) := by decide +kernel
theorem dX6_put_4 : decode cX6_put 4 = .ok (.iload_n 1, 1) := by decide +kernel
theorem dX6_put_5 : decode cX6_put 5 = .ok (.aload_n 0, 1) := by decide +kernel
theorem dX6_put_6 : decode cX6_put 6 = .ok (.arraylength, 1) := by decide +kernel
theorem dX6_put_7 : decode cX6_put 7 = .ok (.if_icmp .ge 7, 3) := by decide +kernel
theorem dX6_put_10 : decode cX6_put 10 = .ok (.aload_n 0, 1) := by decide +kernel
theorem dX6_put_11 : decode cX6_put 11 = .ok (.iload_n 1, 1) := by decide +kernel
theorem dX6_put_12 : decode cX6_put 12 = .ok (.iload_n 2, 1) := by decide +kernel
theorem dX6_put_13 : decode cX6_put 13 = .ok (.iastore, 1) := by decide +kernel
theorem dX6_put_14 : decode cX6_put 14 = .ok (.return_, 1) := by decide +kernel
theorem dX6_remainder_0 : decode cX6_remainder 0 = .ok (.iload_n 1, 1) := by decide +kernel
theorem dX6_remainder_1 : decode cX6_remainder 1 = .ok (.ifCond .le 9, 3) := by decide +kernel
theorem dX6_remainder_4 : decode cX6_remainder 4 = .ok (.iload_n 0, 1) := by decide +kernel
theorem dX6_remainder_5 : decode cX6_remainder 5 = .ok (.iload_n 1, 1) := by decide +kernel
theorem dX6_remainder_6 : decode cX6_remainder 6 = .ok (.irem, 1) := by decide +kernel
theorem dX6_remainder_7 : decode cX6_remainder 7 = .ok (.goto 4, 3) := by decide +kernel
theorem dX6_remainder_10 : decode cX6_remainder 10 = .ok (.iconst 0, 1) := by decide +kernel
theorem dX6_remainder_11 : decode cX6_remainder 11 = .ok (.ireturn, 1) := by decide +kernel
theorem dX6_quotient_0 : decode cX6_quotient 0 = .ok (.lload_n 2, 1) := by decide +kernel
theorem dX6_quotient_1 : decode cX6_quotient 1 = .ok (.lconst 0, 1) := by decide +kernel
theorem dX6_quotient_2 : decode cX6_quotient 2 = .ok (.lcmp, 1) := by decide +kernel
theorem dX6_quotient_3 : decode cX6_quotient 3 = .ok (.ifCond .le 9, 3) := by decide +kernel
theorem dX6_quotient_6 : decode cX6_quotient 6 = .ok (.lload_n 0, 1) := by decide +kernel
theorem dX6_quotient_7 : decode cX6_quotient 7 = .ok (.lload_n 2, 1) := by decide +kernel
theorem dX6_quotient_8 : decode cX6_quotient 8 = .ok (.ldiv, 1) := by decide +kernel
theorem dX6_quotient_9 : decode cX6_quotient 9 = .ok (.goto 4, 3) := by decide +kernel
theorem dX6_quotient_12 : decode cX6_quotient 12 = .ok (.lconst 0, 1) := by decide +kernel
theorem dX6_quotient_13 : decode cX6_quotient 13 = .ok (.lreturn, 1) := by decide +kernel
set_option maxRecDepth 20000 in
theorem ggX6_insert_X6_at : GoodIn wsX6_insert wsX6_at := goodIn_r _ [4] (by decide +kernel) (by decide +kernel)
set_option maxRecDepth 20000 in
theorem gX6_insert_X6_at : GoodIn wsX6_insert (va_wsS RX6 90 yX6_at wsX6_at) := goodIn_app (goodIn_of _ (by decide +kernel)) ggX6_insert_X6_at
set_option maxRecDepth 20000 in
theorem ggX6_insert_X6_put : GoodIn wsX6_insert wsX6_put := goodIn_r _ [7] (by decide +kernel) (by decide +kernel)
set_option maxRecDepth 20000 in
theorem gX6_insert_X6_put : GoodIn wsX6_insert (va_wsS RX6 193 yX6_put wsX6_put) := goodIn_app (goodIn_of _ (by decide +kernel)) ggX6_insert_X6_put
theorem dX6_insert_0 : decode cX6_insert 0 = .ok (.iload_n 2, 1) := by decide +kernel
theorem dX6_insert_1 : decode cX6_insert 1 = .ok (.iconst 1, 1) := by decide +kernel
theorem dX6_insert_2 : decode cX6_insert 2 = .ok (.isub, 1) := by decide +kernel
theorem dX6_insert_3 : decode cX6_insert 3 = .ok (.istore 4, 2) := by decide +kernel
theorem dX6_insert_5 : decode cX6_insert 5 = .ok (.iload 4, 2) := by decide +kernel
theorem dX6_insert_7 : decode cX6_insert 7 = .ok (.iload_n 1, 1) := by decide +kernel
theorem dX6_insert_8 : decode cX6_insert 8 = .ok (.if_icmp .le 23, 3) := by decide +kernel
theorem dX6_insert_11 : decode cX6_insert 11 = .ok (.aload_n 0, 1) := by decide +kernel
theorem dX6_insert_12 : decode cX6_insert 12 = .ok (.iload 4, 2) := by decide +kernel
theorem dX6_insert_14 : decode cX6_insert 14 = .ok (.aload_n 0, 1) := by decide +kernel
theorem dX6_insert_15 : decode cX6_insert 15 = .ok (.iload 4, 2) := by decide +kernel
theorem dX6_insert_17 : decode cX6_insert 17 = .ok (.iconst 1, 1) := by decide +kernel
theorem dX6_insert_18 : decode cX6_insert 18 = .ok (.isub, 1) := by decide +kernel
theorem dX6_insert_19 : decode cX6_insert 19 = .ok (.invokestatic 90, 3) := by decide +kernel
theorem dX6_insert_22 : decode cX6_insert 22 = .ok (.invokestatic 193, 3) := by decide +kernel
theorem dX6_insert_25 : decode cX6_insert 25 = .ok (.iinc 4 (-1), 3) := by decide +kernel
theorem dX6_insert_28 : decode cX6_insert 28 = .ok (.goto (-23), 3) := by decide +kernel
theorem dX6_insert_31 : decode cX6_insert 31 = .ok (.aload_n 0, 1) := by decide +kernel
theorem dX6_insert_32 : decode cX6_insert 32 = .ok (.iload_n 1, 1) := by decide +kernel
theorem dX6_insert_33 : decode cX6_insert 33 = .ok (.iload_n 3, 1) := by decide +kernel
theorem dX6_insert_34 : decode cX6_insert 34 = .ok (.invokestatic 193, 3) := by decide +kernel
theorem dX6_insert_37 : decode cX6_insert 37 = .ok (.return_, 1) := by decide +kernel
theorem dX7_init_0 : decode cX7_init 0 = .ok (.aload_n 0, 1) := by decide +kernel
theorem dX7_init_1 : decode cX7_init 1 = .ok (.invokespecial 1, 3) := by decide +kernel
theorem dX7_init_4 : decode cX7_init 4 = .ok (.aload_n 0, 1) := by decide +kernel
theorem dX7_init_5 : decode cX7_init 5 = .ok (.iconst 4, 1) := by decide +kernel
theorem dX7_init_6 : decode cX7_init 6 = .ok (.putfield 7, 3) := by decide +kernel
theorem dX7_init_9 : decode cX7_init 9 = .ok (.aload_n 0, 1) := by decide +kernel
theorem dX7_init_10 : decode cX7_init 10 = .ok (.bipush 8, 2) := by decide +kernel
theorem dX7_init_12 : decode cX7_init 12 = .ok (.putfield 13, 3) := by decide +kernel
theorem dX7_init_15 : decode cX7_init 15 = .ok (.aload_n 0, 1) := by decide +kernel
theorem dX7_init_16 : decode cX7_init 16 = .ok (.iconst 2, 1) := by decide +kernel
theorem dX7_init_17 : decode cX7_init 17 = .ok (.newarray .int, 2) := by decide +kernel
theorem dX7_init_19 : decode cX7_init 19 = .ok (.putfield 16, 3) := by decide +kernel
theorem dX7_init_22 : decode cX7_init 22 = .ok (.aload_n 0, 1) := by decide +kernel
theorem dX7_init_23 : decode cX7_init 23 = .ok (.sipush 600, 3) := by decide +kernel
theorem dX7_init_26 : decode cX7_init 26 = .ok (.newarray .int, 2) := by decide +kernel
theorem dX7_init_28 : decode cX7_init 28 = .ok (.putfield 20, 3) := by decide +kernel
theorem dX7_init_31 : decode cX7_init 31 = .ok (.aload_n 0, 1) := by decide +kernel
theorem dX7_init_32 : decode cX7_init 32 = .ok (.sipush 600, 3) := by decide +kernel
theorem dX7_init_35 : decode cX7_init 35 = .ok (.newarray .int, 2) := by decide +kernel
theorem dX7_init_37 : decode cX7_init 37 = .ok (.putfield 23, 3) := by decide +kernel
theorem dX7_init_40 : decode cX7_init 40 = .ok (.aload_n 0, 1) := by decide +kernel
theorem dX7_init_41 : decode cX7_init 41 = .ok (.sipush 600, 3) := by decide +kernel
theorem dX7_init_44 : decode cX7_init 44 = .ok (.newarray .int, 2) := by decide +kernel
theorem dX7_init_46 : decode cX7_init 46 = .ok (.putfield 26, 3) := by decide +kernel
theorem dX7_init_49 : decode cX7_init 49 = .ok (.aload_n 0, 1) := by decide +kernel
theorem dX7_init_50 : decode cX7_init 50 = .ok (.sipush 600, 3) := by decide +kernel
theorem dX7_init_53 : decode cX7_init 53 = .ok (.newarray .int, 2) := by decide +kernel
theorem dX7_init_55 : decode cX7_init 55 = .ok (.putfield 29, 3) := by decide +kernel
theorem dX7_init_58 : decode cX7_init 58 = .ok (.aload_n 0, 1) := by decide +kernel
theorem dX7_init_59 : decode cX7_init 59 = .ok (.sipush 600, 3) := by decide +kernel
theorem dX7_init_62 : decode cX7_init 62 = .ok (.newarray .int, 2) := by decide +kernel
theorem dX7_init_64 : decode cX7_init 64 = .ok (.putfield 32, 3) := by decide +kernel
theorem dX7_init_67 : decode cX7_init 67 = .ok (.aload_n 0, 1) := by decide +kernel
theorem dX7_init_68 : decode cX7_init 68 = .ok (.sipush 600, 3) := by decide +kernel
theorem dX7_init_71 : decode cX7_init 71 = .ok (.newarray .boolean, 2) := by decide +kernel
theorem dX7_init_73 : decode cX7_init 73 = .ok (.putfield 35, 3) := by decide +kernel
theorem dX7_init_76 : decode cX7_init 76 = .ok (.aload_n 0, 1) := by decide +kernel
theorem dX7_init_77 : decode cX7_init 77 = .ok (.sipush 300, 3) := by decide +kernel
theorem dX7_init_80 : decode cX7_init 80 = .ok (.newarray .int, 2) := by decide +kernel
theorem dX7_init_82 : decode cX7_init 82 = .ok (.putfield 39, 3) := by decide +kernel
theorem dX7_init_85 : decode cX7_init 85 = .ok (.return_, 1) := by decide +kernel
theorem dX7_thrown_0 : decode cX7_thrown 0 = .ok (.aload_n 0, 1) := by decide +kernel
theorem dX7_thrown_1 : decode cX7_thrown 1 = .ok (.getfield 42, 3) := by decide +kernel
theorem dX7_thrown_4 : decode cX7_thrown 4 = .ok (.ireturn, 1) := by decide +kernel
theorem dX7_refused_0 : decode cX7_refused 0 = .ok (.aload_n 0, 1) := by decide +kernel
theorem dX7_refused_1 : decode cX7_refused 1 = .ok (.iload_n 1, 1) := by decide +kernel
theorem dX7_refused_2 : decode cX7_refused 2 = .ok (.putfield 42, 3) := by decide +kernel
theorem dX7_refused_5 : decode cX7_refused 5 = .ok (.iload_n 1, 1) := by decide +kernel
theorem dX7_refused_6 : decode cX7_refused 6 = .ok (.ifCond .eq 7, 3) := by decide +kernel
theorem dX7_refused_9 : decode cX7_refused 9 = .ok (.iconst 1, 1) := by decide +kernel
theorem dX7_refused_10 : decode cX7_refused 10 = .ok (.goto 4, 3) := by decide +kernel
theorem dX7_refused_13 : decode cX7_refused 13 = .ok (.iconst 0, 1) := by decide +kernel
theorem dX7_refused_14 : decode cX7_refused 14 = .ok (.ireturn, 1) := by decide +kernel
theorem dX7_in_0 : decode cX7_in 0 = .ok (.iload_n 0, 1) := by decide +kernel
theorem dX7_in_1 : decode cX7_in 1 = .ok (.iload_n 1, 1) := by decide +kernel
theorem dX7_in_2 : decode cX7_in 2 = .ok (.if_icmp .lt 12, 3) := by decide +kernel
theorem dX7_in_5 : decode cX7_in 5 = .ok (.iload_n 0, 1) := by decide +kernel
theorem dX7_in_6 : decode cX7_in 6 = .ok (.iload_n 2, 1) := by decide +kernel
theorem dX7_in_7 : decode cX7_in 7 = .ok (.if_icmp .gt 7, 3) := by decide +kernel
theorem dX7_in_10 : decode cX7_in 10 = .ok (.iconst 1, 1) := by decide +kernel
theorem dX7_in_11 : decode cX7_in 11 = .ok (.goto 4, 3) := by decide +kernel
theorem dX7_in_14 : decode cX7_in 14 = .ok (.iconst 0, 1) := by decide +kernel
theorem dX7_in_15 : decode cX7_in 15 = .ok (.ireturn, 1) := by decide +kernel
set_option maxRecDepth 20000 in
theorem ggX7_noStream_X7_in : GoodIn wsX7_noStream wsX7_in := goodIn_r _ [4] (by decide +kernel) (by decide +kernel)
set_option maxRecDepth 20000 in
theorem gX7_noStream_X7_in : GoodIn wsX7_noStream (va_wsS RX7 45 yX7_in wsX7_in) := goodIn_app (goodIn_of _ (by decide +kernel)) ggX7_noStream_X7_in
set_option maxRecDepth 20000 in
theorem ggX7_noStream_X7_refused : GoodIn wsX7_noStream wsX7_refused := goodIn_r _ [8, 9, 10, 11, 12, 13, 14, 15, 16, 17, 18, 19, 20, 21, 22] (by decide +kernel) (by decide +kernel)
set_option maxRecDepth 20000 in
theorem gX7_noStream_X7_refused : GoodIn wsX7_noStream (wsV RX7 49 RX7 yX7_refused wsX7_refused) := goodIn_app (goodIn_of _ (by decide +kernel)) ggX7_noStream_X7_refused
theorem dX7_noStream_0 : decode cX7_noStream 0 = .ok (.aload_n 0, 1) := by decide +kernel
theorem dX7_noStream_1 : decode cX7_noStream 1 = .ok (.iload_n 1, 1) := by decide +kernel
theorem dX7_noStream_2 : decode cX7_noStream 2 = .ok (.iconst 0, 1) := by decide +kernel
theorem dX7_noStream_3 : decode cX7_noStream 3 = .ok (.iload_n 2, 1) := by decide +kernel
theorem dX7_noStream_4 : decode cX7_noStream 4 = .ok (.invokestatic 45, 3) := by decide +kernel
theorem dX7_noStream_7 : decode cX7_noStream 7 = .ok (.ifCond .eq 7, 3) := by decide +kernel
theorem dX7_noStream_10 : decode cX7_noStream 10 = .ok (.iconst 0, 1) := by decide +kernel
theorem dX7_noStream_11 : decode cX7_noStream 11 = .ok (.goto 4, 3) := by decide +kernel
theorem dX7_noStream_14 : decode cX7_noStream 14 = .ok (.iconst 1, 1) := by decide +kernel
theorem dX7_noStream_15 : decode cX7_noStream 15 = .ok (.invokevirtual 49, 3) := by decide +kernel
theorem dX7_noStream_18 : decode cX7_noStream 18 = .ok (.ireturn, 1) := by decide +kernel
set_option maxRecDepth 20000 in
theorem ggX7_noGroup_X7_in : GoodIn wsX7_noGroup wsX7_in := goodIn_r _ [4] (by decide +kernel) (by decide +kernel)
set_option maxRecDepth 20000 in
theorem gX7_noGroup_X7_in : GoodIn wsX7_noGroup (va_wsS RX7 45 yX7_in wsX7_in) := goodIn_app (goodIn_of _ (by decide +kernel)) ggX7_noGroup_X7_in
set_option maxRecDepth 20000 in
theorem ggX7_noGroup_X7_refused : GoodIn wsX7_noGroup wsX7_refused := goodIn_r _ [8, 9, 10, 11, 12, 13, 14, 15, 16, 17, 18, 19, 20, 21, 22] (by decide +kernel) (by decide +kernel)
set_option maxRecDepth 20000 in
theorem gX7_noGroup_X7_refused : GoodIn wsX7_noGroup (wsV RX7 49 RX7 yX7_refused wsX7_refused) := goodIn_app (goodIn_of _ (by decide +kernel)) ggX7_noGroup_X7_refused
theorem dX7_noGroup_0 : decode cX7_noGroup 0 = .ok (.aload_n 0, 1) := by decide +kernel
theorem dX7_noGroup_1 : decode cX7_noGroup 1 = .ok (.iload_n 1, 1) := by decide +kernel
theorem dX7_noGroup_2 : decode cX7_noGroup 2 = .ok (.iconst 0, 1) := by decide +kernel
theorem dX7_noGroup_3 : decode cX7_noGroup 3 = .ok (.iload_n 2, 1) := by decide +kernel
theorem dX7_noGroup_4 : decode cX7_noGroup 4 = .ok (.invokestatic 45, 3) := by decide +kernel
theorem dX7_noGroup_7 : decode cX7_noGroup 7 = .ok (.ifCond .eq 16, 3) := by decide +kernel
theorem dX7_noGroup_10 : decode cX7_noGroup 10 = .ok (.iload_n 3, 1) := by decide +kernel
theorem dX7_noGroup_11 : decode cX7_noGroup 11 = .ok (.iconst 0, 1) := by decide +kernel
theorem dX7_noGroup_12 : decode cX7_noGroup 12 = .ok (.iconst 3, 1) := by decide +kernel
theorem dX7_noGroup_13 : decode cX7_noGroup 13 = .ok (.invokestatic 45, 3) := by decide +kernel
theorem dX7_noGroup_16 : decode cX7_noGroup 16 = .ok (.ifCond .eq 7, 3) := by decide +kernel
theorem dX7_noGroup_19 : decode cX7_noGroup 19 = .ok (.iconst 0, 1) := by decide +kernel
theorem dX7_noGroup_20 : decode cX7_noGroup 20 = .ok (.goto 4, 3) := by decide +kernel
theorem dX7_noGroup_23 : decode cX7_noGroup 23 = .ok (.iconst 1, 1) := by decide +kernel
theorem dX7_noGroup_24 : decode cX7_noGroup 24 = .ok (.invokevirtual 49, 3) := by decide +kernel
theorem dX7_noGroup_27 : decode cX7_noGroup 27 = .ok (.ireturn, 1) := by decide +kernel
set_option maxRecDepth 20000 in
theorem ggX7_begin_X7_in : GoodIn wsX7_begin wsX7_in := goodIn_r _ [7] (by decide +kernel) (by decide +kernel)
set_option maxRecDepth 20000 in
theorem gX7_begin_X7_in : GoodIn wsX7_begin (va_wsS RX7 45 yX7_in wsX7_in) := goodIn_app (goodIn_of _ (by decide +kernel)) ggX7_begin_X7_in
set_option maxRecDepth 20000 in
theorem ggX7_begin_X7_refused : GoodIn wsX7_begin wsX7_refused := goodIn_r _ [11, 12, 13, 14, 15, 16, 17, 18, 19, 20, 21, 22, 23, 24, 25] (by decide +kernel) (by decide +kernel)
set_option maxRecDepth 20000 in
theorem gX7_begin_X7_refused : GoodIn wsX7_begin (wsV RX7 49 RX7 yX7_refused wsX7_refused) := goodIn_app (goodIn_of _ (by decide +kernel)) ggX7_begin_X7_refused
theorem dX7_begin_0 : decode cX7_begin 0 = .ok (.aload_n 0, 1) := by decide +kernel
theorem dX7_begin_1 : decode cX7_begin 1 = .ok (.iload_n 1, 1) := by decide +kernel
theorem dX7_begin_2 : decode cX7_begin 2 = .ok (.iconst 2, 1) := by decide +kernel
theorem dX7_begin_3 : decode cX7_begin 3 = .ok (.bipush 16, 2) := by decide +kernel
theorem dX7_begin_5 : decode cX7_begin 5 = .ok (.invokestatic 45, 3) := by decide +kernel
end
section
theorem dX7_begin_8 : decode cX7_begin 8 = .ok (.ifCond .eq 17, 3) := by decide +kernel
theorem dX7_begin_11 : decode cX7_begin 11 = .ok (.iload_n 2, 1) := by decide +kernel
theorem dX7_begin_12 : decode cX7_begin 12 = .ok (.iconst 1, 1) := by decide +kernel
theorem dX7_begin_13 : decode cX7_begin 13 = .ok (.bipush 64, 2) := by decide +kernel
theorem dX7_begin_15 : decode cX7_begin 15 = .ok (.invokestatic 45, 3) := by decide +kernel
theorem dX7_begin_18 : decode cX7_begin 18 = .ok (.ifCond .eq 7, 3) := by decide +kernel
theorem dX7_begin_21 : decode cX7_begin 21 = .ok (.iconst 0, 1) := by decide +kernel
theorem dX7_begin_22 : decode cX7_begin 22 = .ok (.goto 4, 3) := by decide +kernel
theorem dX7_begin_25 : decode cX7_begin 25 = .ok (.iconst 1, 1) := by decide +kernel
theorem dX7_begin_26 : decode cX7_begin 26 = .ok (.invokevirtual 49, 3) := by decide +kernel
theorem dX7_begin_29 : decode cX7_begin 29 = .ok (.ifCond .ne 27, 3) := by decide +kernel
theorem dX7_begin_32 : decode cX7_begin 32 = .ok (.aload_n 0, 1) := by decide +kernel
theorem dX7_begin_33 : decode cX7_begin 33 = .ok (.iload_n 1, 1) := by decide +kernel
theorem dX7_begin_34 : decode cX7_begin 34 = .ok (.putfield 7, 3) := by decide +kernel
theorem dX7_begin_37 : decode cX7_begin 37 = .ok (.aload_n 0, 1) := by decide +kernel
theorem dX7_begin_38 : decode cX7_begin 38 = .ok (.iload_n 2, 1) := by decide +kernel
theorem dX7_begin_39 : decode cX7_begin 39 = .ok (.putfield 13, 3) := by decide +kernel
theorem dX7_begin_42 : decode cX7_begin 42 = .ok (.aload_n 0, 1) := by decide +kernel
theorem dX7_begin_43 : decode cX7_begin 43 = .ok (.getfield 16, 3) := by decide +kernel
theorem dX7_begin_46 : decode cX7_begin 46 = .ok (.iconst 0, 1) := by decide +kernel
theorem dX7_begin_47 : decode cX7_begin 47 = .ok (.iconst 0, 1) := by decide +kernel
theorem dX7_begin_48 : decode cX7_begin 48 = .ok (.iastore, 1) := by decide +kernel
theorem dX7_begin_49 : decode cX7_begin 49 = .ok (.aload_n 0, 1) := by decide +kernel
theorem dX7_begin_50 : decode cX7_begin 50 = .ok (.getfield 16, 3) := by decide +kernel
theorem dX7_begin_53 : decode cX7_begin 53 = .ok (.iconst 1, 1) := by decide +kernel
theorem dX7_begin_54 : decode cX7_begin 54 = .ok (.iconst 0, 1) := by decide +kernel
theorem dX7_begin_55 : decode cX7_begin 55 = .ok (.iastore, 1) := by decide +kernel
theorem dX7_begin_56 : decode cX7_begin 56 = .ok (.return_, 1) := by decide +kernel
set_option maxRecDepth 20000 in
theorem ggX7_offer_X7_in : GoodIn wsX7_offer wsX7_in := goodIn_r _ [11] (by decide +kernel) (by decide +kernel)
set_option maxRecDepth 20000 in
theorem gX7_offer_X7_in : GoodIn wsX7_offer (va_wsS RX7 45 yX7_in wsX7_in) := goodIn_app (goodIn_of _ (by decide +kernel)) ggX7_offer_X7_in
set_option maxRecDepth 20000 in
theorem ggX7_offer_X7_refused : GoodIn wsX7_offer wsX7_refused := goodIn_r _ [15, 16, 17, 18, 19, 20, 21, 22, 23, 24, 25, 26, 27, 28, 29] (by decide +kernel) (by decide +kernel)
set_option maxRecDepth 20000 in
theorem gX7_offer_X7_refused : GoodIn wsX7_offer (wsV RX7 49 RX7 yX7_refused wsX7_refused) := goodIn_app (goodIn_of _ (by decide +kernel)) ggX7_offer_X7_refused
theorem dX7_offer_0 : decode cX7_offer 0 = .ok (.iload_n 1, 1) := by decide +kernel
theorem dX7_offer_1 : decode cX7_offer 1 = .ok (.iconst 0, 1) := by decide +kernel
theorem dX7_offer_2 : decode cX7_offer 2 = .ok (.iconst 1, 1) := by decide +kernel
theorem dX7_offer_3 : decode cX7_offer 3 = .ok (.invokestatic 45, 3) := by decide +kernel
theorem dX7_offer_6 : decode cX7_offer 6 = .ok (.ifCond .eq 47, 3) := by decide +kernel
theorem dX7_offer_9 : decode cX7_offer 9 = .ok (.iload_n 2, 1) := by decide +kernel
theorem dX7_offer_10 : decode cX7_offer 10 = .ok (.iconst 0, 1) := by decide +kernel
theorem dX7_offer_11 : decode cX7_offer 11 = .ok (.ldc 53, 2) := by decide +kernel
theorem dX7_offer_13 : decode cX7_offer 13 = .ok (.invokestatic 45, 3) := by decide +kernel
theorem dX7_offer_16 : decode cX7_offer 16 = .ok (.ifCond .eq 37, 3) := by decide +kernel
theorem dX7_offer_19 : decode cX7_offer 19 = .ok (.iload_n 3, 1) := by decide +kernel
theorem dX7_offer_20 : decode cX7_offer 20 = .ok (.iconst 1, 1) := by decide +kernel
theorem dX7_offer_21 : decode cX7_offer 21 = .ok (.ldc 53, 2) := by decide +kernel
theorem dX7_offer_23 : decode cX7_offer 23 = .ok (.invokestatic 45, 3) := by decide +kernel
theorem dX7_offer_26 : decode cX7_offer 26 = .ok (.ifCond .eq 27, 3) := by decide +kernel
theorem dX7_offer_29 : decode cX7_offer 29 = .ok (.iload 4, 2) := by decide +kernel
theorem dX7_offer_31 : decode cX7_offer 31 = .ok (.iconst 0, 1) := by decide +kernel
theorem dX7_offer_32 : decode cX7_offer 32 = .ok (.iconst 3, 1) := by decide +kernel
theorem dX7_offer_33 : decode cX7_offer 33 = .ok (.invokestatic 45, 3) := by decide +kernel
theorem dX7_offer_36 : decode cX7_offer 36 = .ok (.ifCond .eq 17, 3) := by decide +kernel
theorem dX7_offer_39 : decode cX7_offer 39 = .ok (.iload 5, 2) := by decide +kernel
theorem dX7_offer_41 : decode cX7_offer 41 = .ok (.ifCond .lt 12, 3) := by decide +kernel
theorem dX7_offer_44 : decode cX7_offer 44 = .ok (.iload 6, 2) := by decide +kernel
theorem dX7_offer_46 : decode cX7_offer 46 = .ok (.ifCond .lt 7, 3) := by decide +kernel
theorem dX7_offer_49 : decode cX7_offer 49 = .ok (.iconst 1, 1) := by decide +kernel
theorem dX7_offer_50 : decode cX7_offer 50 = .ok (.goto 4, 3) := by decide +kernel
theorem dX7_offer_53 : decode cX7_offer 53 = .ok (.iconst 0, 1) := by decide +kernel
theorem dX7_offer_54 : decode cX7_offer 54 = .ok (.istore 7, 2) := by decide +kernel
theorem dX7_offer_56 : decode cX7_offer 56 = .ok (.aload_n 0, 1) := by decide +kernel
theorem dX7_offer_57 : decode cX7_offer 57 = .ok (.iload 7, 2) := by decide +kernel
theorem dX7_offer_59 : decode cX7_offer 59 = .ok (.ifCond .ne 7, 3) := by decide +kernel
theorem dX7_offer_62 : decode cX7_offer 62 = .ok (.iconst 1, 1) := by decide +kernel
theorem dX7_offer_63 : decode cX7_offer 63 = .ok (.goto 20, 3) := by decide +kernel
theorem dX7_offer_66 : decode cX7_offer 66 = .ok (.aload_n 0, 1) := by decide +kernel
theorem dX7_offer_67 : decode cX7_offer 67 = .ok (.getfield 16, 3) := by decide +kernel
theorem dX7_offer_70 : decode cX7_offer 70 = .ok (.iload_n 1, 1) := by decide +kernel
theorem dX7_offer_71 : decode cX7_offer 71 = .ok (.iaload, 1) := by decide +kernel
theorem dX7_offer_72 : decode cX7_offer 72 = .ok (.sipush 300, 3) := by decide +kernel
theorem dX7_offer_75 : decode cX7_offer 75 = .ok (.if_icmp .ne 7, 3) := by decide +kernel
theorem dX7_offer_78 : decode cX7_offer 78 = .ok (.iconst 2, 1) := by decide +kernel
theorem dX7_offer_79 : decode cX7_offer 79 = .ok (.goto 4, 3) := by decide +kernel
theorem dX7_offer_82 : decode cX7_offer 82 = .ok (.iconst 0, 1) := by decide +kernel
theorem dX7_offer_83 : decode cX7_offer 83 = .ok (.invokevirtual 49, 3) := by decide +kernel
theorem dX7_offer_86 : decode cX7_offer 86 = .ok (.ifCond .eq 5, 3) := by decide +kernel
theorem dX7_offer_89 : decode cX7_offer 89 = .ok (.iconst 0, 1) := by decide +kernel
theorem dX7_offer_90 : decode cX7_offer 90 = .ok (.ireturn, 1) := by decide +kernel
theorem dX7_offer_91 : decode cX7_offer 91 = .ok (.sipush 300, 3) := by decide +kernel
theorem dX7_offer_94 : decode cX7_offer 94 = .ok (.iload_n 1, 1) := by decide +kernel
theorem dX7_offer_95 : decode cX7_offer 95 = .ok (.imul, 1) := by decide +kernel
theorem dX7_offer_96 : decode cX7_offer 96 = .ok (.aload_n 0, 1) := by decide +kernel
theorem dX7_offer_97 : decode cX7_offer 97 = .ok (.getfield 16, 3) := by decide +kernel
theorem dX7_offer_100 : decode cX7_offer 100 = .ok (.iload_n 1, 1) := by decide +kernel
theorem dX7_offer_101 : decode cX7_offer 101 = .ok (.iaload, 1) := by decide +kernel
theorem dX7_offer_102 : decode cX7_offer 102 = .ok (.iadd, 1) := by decide +kernel
theorem dX7_offer_103 : decode cX7_offer 103 = .ok (.istore 8, 2) := by decide +kernel
theorem dX7_offer_105 : decode cX7_offer 105 = .ok (.aload_n 0, 1) := by decide +kernel
theorem dX7_offer_106 : decode cX7_offer 106 = .ok (.getfield 20, 3) := by decide +kernel
theorem dX7_offer_109 : decode cX7_offer 109 = .ok (.iload 8, 2) := by decide +kernel
theorem dX7_offer_111 : decode cX7_offer 111 = .ok (.iload_n 2, 1) := by decide +kernel
theorem dX7_offer_112 : decode cX7_offer 112 = .ok (.iastore, 1) := by decide +kernel
theorem dX7_offer_113 : decode cX7_offer 113 = .ok (.aload_n 0, 1) := by decide +kernel
theorem dX7_offer_114 : decode cX7_offer 114 = .ok (.getfield 23, 3) := by decide +kernel
theorem dX7_offer_117 : decode cX7_offer 117 = .ok (.iload 8, 2) := by decide +kernel
theorem dX7_offer_119 : decode cX7_offer 119 = .ok (.iload_n 3, 1) := by decide +kernel
theorem dX7_offer_120 : decode cX7_offer 120 = .ok (.iastore, 1) := by decide +kernel
theorem dX7_offer_121 : decode cX7_offer 121 = .ok (.aload_n 0, 1) := by decide +kernel
theorem dX7_offer_122 : decode cX7_offer 122 = .ok (.getfield 26, 3) := by decide +kernel
theorem dX7_offer_125 : decode cX7_offer 125 = .ok (.iload 8, 2) := by decide +kernel
theorem dX7_offer_127 : decode cX7_offer 127 = .ok (.iload 4, 2) := by decide +kernel
theorem dX7_offer_129 : decode cX7_offer 129 = .ok (.iastore, 1) := by decide +kernel
theorem dX7_offer_130 : decode cX7_offer 130 = .ok (.aload_n 0, 1) := by decide +kernel
theorem dX7_offer_131 : decode cX7_offer 131 = .ok (.getfield 29, 3) := by decide +kernel
theorem dX7_offer_134 : decode cX7_offer 134 = .ok (.iload 8, 2) := by decide +kernel
theorem dX7_offer_136 : decode cX7_offer 136 = .ok (.iload 5, 2) := by decide +kernel
theorem dX7_offer_138 : decode cX7_offer 138 = .ok (.iastore, 1) := by decide +kernel
theorem dX7_offer_139 : decode cX7_offer 139 = .ok (.aload_n 0, 1) := by decide +kernel
theorem dX7_offer_140 : decode cX7_offer 140 = .ok (.getfield 32, 3) := by decide +kernel
theorem dX7_offer_143 : decode cX7_offer 143 = .ok (.iload 8, 2) := by decide +kernel
theorem dX7_offer_145 : decode cX7_offer 145 = .ok (.iload 6, 2) := by decide +kernel
theorem dX7_offer_147 : decode cX7_offer 147 = .ok (.iastore, 1) := by decide +kernel
theorem dX7_offer_148 : decode cX7_offer 148 = .ok (.aload_n 0, 1) := by decide +kernel
theorem dX7_offer_149 : decode cX7_offer 149 = .ok (.getfield 16, 3) := by decide +kernel
theorem dX7_offer_152 : decode cX7_offer 152 = .ok (.iload_n 1, 1) := by decide +kernel
theorem dX7_offer_153 : decode cX7_offer 153 = .ok (.dup2, 1) := by decide +kernel
theorem dX7_offer_154 : decode cX7_offer 154 = .ok (.iaload, 1) := by decide +kernel
theorem dX7_offer_155 : decode cX7_offer 155 = .ok (.iconst 1, 1) := by decide +kernel
theorem dX7_offer_156 : decode cX7_offer 156 = .ok (.iadd, 1) := by decide +kernel
theorem dX7_offer_157 : decode cX7_offer 157 = .ok (.iastore, 1) := by decide +kernel
theorem dX7_offer_158 : decode cX7_offer 158 = .ok (.aload_n 0, 1) := by decide +kernel
theorem dX7_offer_159 : decode cX7_offer 159 = .ok (.getfield 16, 3) := by decide +kernel
theorem dX7_offer_162 : decode cX7_offer 162 = .ok (.iload_n 1, 1) := by decide +kernel
theorem dX7_offer_163 : decode cX7_offer 163 = .ok (.iaload, 1) := by decide +kernel
theorem dX7_offer_164 : decode cX7_offer 164 = .ok (.ireturn, 1) := by decide +kernel
set_option maxRecDepth 20000 in
theorem ggX7_clear_X7_noStream : GoodIn wsX7_clear wsX7_noStream := goodIn_r _ [6, 7, 8, 5, 9, 10, 11, 12, 13, 14, 15, 16, 17, 18, 19, 20, 21, 22, 23, 24, 25, 26, 27] (by decide +kernel) (by decide +kernel)
set_option maxRecDepth 20000 in
theorem gX7_clear_X7_noStream : GoodIn wsX7_clear (wsV RX7 54 RX7 yX7_noStream wsX7_noStream) := goodIn_app (goodIn_of _ (by decide +kernel)) ggX7_clear_X7_noStream
theorem dX7_clear_0 : decode cX7_clear 0 = .ok (.aload_n 0, 1) := by decide +kernel
theorem dX7_clear_1 : decode cX7_clear 1 = .ok (.iload_n 1, 1) := by decide +kernel
theorem dX7_clear_2 : decode cX7_clear 2 = .ok (.iconst 1, 1) := by decide +kernel
theorem dX7_clear_3 : decode cX7_clear 3 = .ok (.invokevirtual 54, 3) := by decide +kernel
theorem dX7_clear_6 : decode cX7_clear 6 = .ok (.ifCond .eq 5, 3) := by decide +kernel
theorem dX7_clear_9 : decode cX7_clear 9 = .ok (.iconst 0, 1) := by decide +kernel
theorem dX7_clear_10 : decode cX7_clear 10 = .ok (.ireturn, 1) := by decide +kernel
theorem dX7_clear_11 : decode cX7_clear 11 = .ok (.aload_n 0, 1) := by decide +kernel
theorem dX7_clear_12 : decode cX7_clear 12 = .ok (.getfield 16, 3) := by decide +kernel
theorem dX7_clear_15 : decode cX7_clear 15 = .ok (.iload_n 1, 1) := by decide +kernel
theorem dX7_clear_16 : decode cX7_clear 16 = .ok (.iaload, 1) := by decide +kernel
theorem dX7_clear_17 : decode cX7_clear 17 = .ok (.istore_n 2, 1) := by decide +kernel
theorem dX7_clear_18 : decode cX7_clear 18 = .ok (.aload_n 0, 1) := by decide +kernel
theorem dX7_clear_19 : decode cX7_clear 19 = .ok (.getfield 16, 3) := by decide +kernel
theorem dX7_clear_22 : decode cX7_clear 22 = .ok (.iload_n 1, 1) := by decide +kernel
theorem dX7_clear_23 : decode cX7_clear 23 = .ok (.iconst 0, 1) := by decide +kernel
theorem dX7_clear_24 : decode cX7_clear 24 = .ok (.iastore, 1) := by decide +kernel
theorem dX7_clear_25 : decode cX7_clear 25 = .ok (.iload_n 2, 1) := by decide +kernel
theorem dX7_clear_26 : decode cX7_clear 26 = .ok (.ireturn, 1) := by decide +kernel
set_option maxRecDepth 20000 in
theorem ggX7_offers_X7_noStream : GoodIn wsX7_offers wsX7_noStream := goodIn_r _ [6, 7, 8, 5, 9, 10, 11, 12, 13, 14, 15, 16, 17, 18, 19, 20, 21, 22, 23, 24, 25, 26, 27] (by decide +kernel) (by decide +kernel)
set_option maxRecDepth 20000 in
theorem gX7_offers_X7_noStream : GoodIn wsX7_offers (wsV RX7 54 RX7 yX7_noStream wsX7_noStream) := goodIn_app (goodIn_of _ (by decide +kernel)) ggX7_offers_X7_noStream
theorem dX7_offers_0 : decode cX7_offers 0 = .ok (.aload_n 0, 1) := by decide +kernel
theorem dX7_offers_1 : decode cX7_offers 1 = .ok (.iload_n 1, 1) := by decide +kernel
theorem dX7_offers_2 : decode cX7_offers 2 = .ok (.iconst 2, 1) := by decide +kernel
theorem dX7_offers_3 : decode cX7_offers 3 = .ok (.invokevirtual 54, 3) := by decide +kernel
theorem dX7_offers_6 : decode cX7_offers 6 = .ok (.ifCond .eq 7, 3) := by decide +kernel
theorem dX7_offers_9 : decode cX7_offers 9 = .ok (.iconst 0, 1) := by decide +kernel
theorem dX7_offers_10 : decode cX7_offers 10 = .ok (.goto 30, 3) := by decide +kernel
theorem dX7_offers_13 : decode cX7_offers 13 = .ok (.iload_n 1, 1) := by decide +kernel
theorem dX7_offers_14 : decode cX7_offers 14 = .ok (.iconst 2, 1) := by decide +kernel
theorem dX7_offers_15 : decode cX7_offers 15 = .ok (.if_icmp .ne 19, 3) := by decide +kernel
theorem dX7_offers_18 : decode cX7_offers 18 = .ok (.aload_n 0, 1) := by decide +kernel
theorem dX7_offers_19 : decode cX7_offers 19 = .ok (.getfield 16, 3) := by decide +kernel
theorem dX7_offers_22 : decode cX7_offers 22 = .ok (.iconst 0, 1) := by decide +kernel
theorem dX7_offers_23 : decode cX7_offers 23 = .ok (.iaload, 1) := by decide +kernel
theorem dX7_offers_24 : decode cX7_offers 24 = .ok (.aload_n 0, 1) := by decide +kernel
theorem dX7_offers_25 : decode cX7_offers 25 = .ok (.getfield 16, 3) := by decide +kernel
theorem dX7_offers_28 : decode cX7_offers 28 = .ok (.iconst 1, 1) := by decide +kernel
theorem dX7_offers_29 : decode cX7_offers 29 = .ok (.iaload, 1) := by decide +kernel
theorem dX7_offers_30 : decode cX7_offers 30 = .ok (.iadd, 1) := by decide +kernel
theorem dX7_offers_31 : decode cX7_offers 31 = .ok (.goto 9, 3) := by decide +kernel
theorem dX7_offers_34 : decode cX7_offers 34 = .ok (.aload_n 0, 1) := by decide +kernel
theorem dX7_offers_35 : decode cX7_offers 35 = .ok (.getfield 16, 3) := by decide +kernel
theorem dX7_offers_38 : decode cX7_offers 38 = .ok (.iload_n 1, 1) := by decide +kernel
theorem dX7_offers_39 : decode cX7_offers 39 = .ok (.iaload, 1) := by decide +kernel
theorem dX7_offers_40 : decode cX7_offers 40 = .ok (.ireturn, 1) := by decide +kernel
theorem dX7_isOf_0 : decode cX7_isOf 0 = .ok (.iload_n 2, 1) := by decide +kernel
theorem dX7_isOf_1 : decode cX7_isOf 1 = .ok (.sipush 300, 3) := by decide +kernel
theorem dX7_isOf_4 : decode cX7_isOf 4 = .ok (.idiv, 1) := by decide +kernel
theorem dX7_isOf_5 : decode cX7_isOf 5 = .ok (.istore_n 3, 1) := by decide +kernel
theorem dX7_isOf_6 : decode cX7_isOf 6 = .ok (.iload_n 1, 1) := by decide +kernel
theorem dX7_isOf_7 : decode cX7_isOf 7 = .ok (.iconst 2, 1) := by decide +kernel
theorem dX7_isOf_8 : decode cX7_isOf 8 = .ok (.if_icmp .eq 8, 3) := by decide +kernel
theorem dX7_isOf_11 : decode cX7_isOf 11 = .ok (.iload_n 1, 1) := by decide +kernel
theorem dX7_isOf_12 : decode cX7_isOf 12 = .ok (.iload_n 3, 1) := by decide +kernel
theorem dX7_isOf_13 : decode cX7_isOf 13 = .ok (.if_icmp .ne 21, 3) := by decide +kernel
theorem dX7_isOf_16 : decode cX7_isOf 16 = .ok (.iload_n 2, 1) := by decide +kernel
theorem dX7_isOf_17 : decode cX7_isOf 17 = .ok (.sipush 300, 3) := by decide +kernel
theorem dX7_isOf_20 : decode cX7_isOf 20 = .ok (.irem, 1) := by decide +kernel
theorem dX7_isOf_21 : decode cX7_isOf 21 = .ok (.aload_n 0, 1) := by decide +kernel
theorem dX7_isOf_22 : decode cX7_isOf 22 = .ok (.getfield 16, 3) := by decide +kernel
theorem dX7_isOf_25 : decode cX7_isOf 25 = .ok (.iload_n 3, 1) := by decide +kernel
theorem dX7_isOf_26 : decode cX7_isOf 26 = .ok (.iaload, 1) := by decide +kernel
theorem dX7_isOf_27 : decode cX7_isOf 27 = .ok (.if_icmp .ge 7, 3) := by decide +kernel
theorem dX7_isOf_30 : decode cX7_isOf 30 = .ok (.iconst 1, 1) := by decide +kernel
theorem dX7_isOf_31 : decode cX7_isOf 31 = .ok (.goto 4, 3) := by decide +kernel
theorem dX7_isOf_34 : decode cX7_isOf 34 = .ok (.iconst 0, 1) := by decide +kernel
theorem dX7_isOf_35 : decode cX7_isOf 35 = .ok (.ireturn, 1) := by decide +kernel
set_option maxRecDepth 20000 in
theorem ggX7_exactWeight_X7_noGroup : GoodIn wsX7_exactWeight wsX7_noGroup := goodIn_r _ [7, 8, 9, 6, 10, 11, 12, 13, 14, 15, 21, 22, 23, 24, 25, 26, 27, 28, 29, 30, 31, 32, 33] (by decide +kernel) (by decide +kernel)
set_option maxRecDepth 20000 in
theorem gX7_exactWeight_X7_noGroup : GoodIn wsX7_exactWeight (wsV RX7 58 RX7 yX7_noGroup wsX7_noGroup) := goodIn_app (goodIn_of _ (by decide +kernel)) ggX7_exactWeight_X7_noGroup
set_option maxRecDepth 20000 in
theorem ggX7_exactWeight_X7_isOf : GoodIn wsX7_exactWeight wsX7_isOf := goodIn_r _ [19, 20, 21, 22, 23, 24, 25, 26, 27, 28, 29, 30, 31, 32, 33] (by decide +kernel) (by decide +kernel)
set_option maxRecDepth 20000 in
theorem gX7_exactWeight_X7_isOf : GoodIn wsX7_exactWeight (wsV RX7 61 RX7 yX7_isOf wsX7_isOf) := goodIn_app (goodIn_of _ (by decide +kernel)) ggX7_exactWeight_X7_isOf
theorem dX7_exactWeight_0 : decode cX7_exactWeight 0 = .ok (.aload_n 0, 1) := by decide +kernel
theorem dX7_exactWeight_1 : decode cX7_exactWeight 1 = .ok (.iload_n 1, 1) := by decide +kernel
theorem dX7_exactWeight_2 : decode cX7_exactWeight 2 = .ok (.iconst 2, 1) := by decide +kernel
theorem dX7_exactWeight_3 : decode cX7_exactWeight 3 = .ok (.iload_n 2, 1) := by decide +kernel
theorem dX7_exactWeight_4 : decode cX7_exactWeight 4 = .ok (.invokevirtual 58, 3) := by decide +kernel
theorem dX7_exactWeight_7 : decode cX7_exactWeight 7 = .ok (.ifCond .eq 5, 3) := by decide +kernel
theorem dX7_exactWeight_10 : decode cX7_exactWeight 10 = .ok (.iconst 0, 1) := by decide +kernel
theorem dX7_exactWeight_11 : decode cX7_exactWeight 11 = .ok (.ireturn, 1) := by decide +kernel
theorem dX7_exactWeight_12 : decode cX7_exactWeight 12 = .ok (.iconst 0, 1) := by decide +kernel
theorem dX7_exactWeight_13 : decode cX7_exactWeight 13 = .ok (.istore_n 3, 1) := by decide +kernel
theorem dX7_exactWeight_14 : decode cX7_exactWeight 14 = .ok (.iconst 0, 1) := by decide +kernel
theorem dX7_exactWeight_15 : decode cX7_exactWeight 15 = .ok (.istore 4, 2) := by decide +kernel
theorem dX7_exactWeight_17 : decode cX7_exactWeight 17 = .ok (.iload 4, 2) := by decide +kernel
theorem dX7_exactWeight_19 : decode cX7_exactWeight 19 = .ok (.sipush 600, 3) := by decide +kernel
theorem dX7_exactWeight_22 : decode cX7_exactWeight 22 = .ok (.if_icmp .ge 44, 3) := by decide +kernel
theorem dX7_exactWeight_25 : decode cX7_exactWeight 25 = .ok (.iload_n 3, 1) := by decide +kernel
theorem dX7_exactWeight_26 : decode cX7_exactWeight 26 = .ok (.aload_n 0, 1) := by decide +kernel
theorem dX7_exactWeight_27 : decode cX7_exactWeight 27 = .ok (.iload_n 1, 1) := by decide +kernel
theorem dX7_exactWeight_28 : decode cX7_exactWeight 28 = .ok (.iload 4, 2) := by decide +kernel
theorem dX7_exactWeight_30 : decode cX7_exactWeight 30 = .ok (.invokevirtual 61, 3) := by decide +kernel
theorem dX7_exactWeight_33 : decode cX7_exactWeight 33 = .ok (.ifCond .eq 24, 3) := by decide +kernel
theorem dX7_exactWeight_36 : decode cX7_exactWeight 36 = .ok (.aload_n 0, 1) := by decide +kernel
theorem dX7_exactWeight_37 : decode cX7_exactWeight 37 = .ok (.getfield 26, 3) := by decide +kernel
theorem dX7_exactWeight_40 : decode cX7_exactWeight 40 = .ok (.iload 4, 2) := by decide +kernel
theorem dX7_exactWeight_42 : decode cX7_exactWeight 42 = .ok (.iaload, 1) := by decide +kernel
theorem dX7_exactWeight_43 : decode cX7_exactWeight 43 = .ok (.iload_n 2, 1) := by decide +kernel
theorem dX7_exactWeight_44 : decode cX7_exactWeight 44 = .ok (.if_icmp .ne 13, 3) := by decide +kernel
theorem dX7_exactWeight_47 : decode cX7_exactWeight 47 = .ok (.aload_n 0, 1) := by decide +kernel
theorem dX7_exactWeight_48 : decode cX7_exactWeight 48 = .ok (.getfield 23, 3) := by decide +kernel
theorem dX7_exactWeight_51 : decode cX7_exactWeight 51 = .ok (.iload 4, 2) := by decide +kernel
theorem dX7_exactWeight_53 : decode cX7_exactWeight 53 = .ok (.iaload, 1) := by decide +kernel
theorem dX7_exactWeight_54 : decode cX7_exactWeight 54 = .ok (.goto 4, 3) := by decide +kernel
theorem dX7_exactWeight_57 : decode cX7_exactWeight 57 = .ok (.iconst 0, 1) := by decide +kernel
theorem dX7_exactWeight_58 : decode cX7_exactWeight 58 = .ok (.iadd, 1) := by decide +kernel
theorem dX7_exactWeight_59 : decode cX7_exactWeight 59 = .ok (.istore_n 3, 1) := by decide +kernel
theorem dX7_exactWeight_60 : decode cX7_exactWeight 60 = .ok (.iinc 4 1, 3) := by decide +kernel
theorem dX7_exactWeight_63 : decode cX7_exactWeight 63 = .ok (.goto (-46), 3) := by decide +kernel
theorem dX7_exactWeight_66 : decode cX7_exactWeight 66 = .ok (.iload_n 3, 1) := by decide +kernel
theorem dX7_exactWeight_67 : decode cX7_exactWeight 67 = .ok (.ireturn, 1) := by decide +kernel
theorem dX7_inSlot_0 : decode cX7_inSlot 0 = .ok (.iconst (-1), 1) := by decide +kernel
theorem dX7_inSlot_1 : decode cX7_inSlot 1 = .ok (.istore 4, 2) := by decide +kernel
theorem dX7_inSlot_3 : decode cX7_inSlot 3 = .ok (.iconst 0, 1) := by decide +kernel
theorem dX7_inSlot_4 : decode cX7_inSlot 4 = .ok (.istore 5, 2) := by decide +kernel
theorem dX7_inSlot_6 : decode cX7_inSlot 6 = .ok (.sipush 300, 3) := by decide +kernel
theorem dX7_inSlot_9 : decode cX7_inSlot 9 = .ok (.iload_n 1, 1) := by decide +kernel
theorem dX7_inSlot_10 : decode cX7_inSlot 10 = .ok (.imul, 1) := by decide +kernel
theorem dX7_inSlot_11 : decode cX7_inSlot 11 = .ok (.istore 6, 2) := by decide +kernel
theorem dX7_inSlot_13 : decode cX7_inSlot 13 = .ok (.iload 6, 2) := by decide +kernel
theorem dX7_inSlot_15 : decode cX7_inSlot 15 = .ok (.sipush 300, 3) := by decide +kernel
theorem dX7_inSlot_18 : decode cX7_inSlot 18 = .ok (.iload_n 1, 1) := by decide +kernel
theorem dX7_inSlot_19 : decode cX7_inSlot 19 = .ok (.imul, 1) := by decide +kernel
theorem dX7_inSlot_20 : decode cX7_inSlot 20 = .ok (.aload_n 0, 1) := by decide +kernel
theorem dX7_inSlot_21 : decode cX7_inSlot 21 = .ok (.getfield 16, 3) := by decide +kernel
theorem dX7_inSlot_24 : decode cX7_inSlot 24 = .ok (.iload_n 1, 1) := by decide +kernel
theorem dX7_inSlot_25 : decode cX7_inSlot 25 = .ok (.iaload, 1) := by decide +kernel
theorem dX7_inSlot_26 : decode cX7_inSlot 26 = .ok (.iadd, 1) := by decide +kernel
theorem dX7_inSlot_27 : decode cX7_inSlot 27 = .ok (.if_icmp .ge 80, 3) := by decide +kernel
theorem dX7_inSlot_30 : decode cX7_inSlot 30 = .ok (.iload_n 2, 1) := by decide +kernel
theorem dX7_inSlot_31 : decode cX7_inSlot 31 = .ok (.iconst (-1), 1) := by decide +kernel
theorem dX7_inSlot_32 : decode cX7_inSlot 32 = .ok (.if_icmp .eq 14, 3) := by decide +kernel
theorem dX7_inSlot_35 : decode cX7_inSlot 35 = .ok (.aload_n 0, 1) := by decide +kernel
theorem dX7_inSlot_36 : decode cX7_inSlot 36 = .ok (.getfield 26, 3) := by decide +kernel
theorem dX7_inSlot_39 : decode cX7_inSlot 39 = .ok (.iload 6, 2) := by decide +kernel
theorem dX7_inSlot_41 : decode cX7_inSlot 41 = .ok (.iaload, 1) := by decide +kernel
theorem dX7_inSlot_42 : decode cX7_inSlot 42 = .ok (.iload_n 2, 1) := by decide +kernel
theorem dX7_inSlot_43 : decode cX7_inSlot 43 = .ok (.if_icmp .ne 58, 3) := by decide +kernel
theorem dX7_inSlot_46 : decode cX7_inSlot 46 = .ok (.iinc 5 1, 3) := by decide +kernel
theorem dX7_inSlot_49 : decode cX7_inSlot 49 = .ok (.iload 5, 2) := by decide +kernel
theorem dX7_inSlot_51 : decode cX7_inSlot 51 = .ok (.aload_n 0, 1) := by decide +kernel
theorem dX7_inSlot_52 : decode cX7_inSlot 52 = .ok (.getfield 7, 3) := by decide +kernel
theorem dX7_inSlot_55 : decode cX7_inSlot 55 = .ok (.if_icmp .gt 10, 3) := by decide +kernel
theorem dX7_inSlot_58 : decode cX7_inSlot 58 = .ok (.iload 5, 2) := by decide +kernel
theorem dX7_inSlot_60 : decode cX7_inSlot 60 = .ok (.iconst 1, 1) := by decide +kernel
theorem dX7_inSlot_61 : decode cX7_inSlot 61 = .ok (.isub, 1) := by decide +kernel
theorem dX7_inSlot_62 : decode cX7_inSlot 62 = .ok (.goto 13, 3) := by decide +kernel
theorem dX7_inSlot_65 : decode cX7_inSlot 65 = .ok (.aload_n 0, 1) := by decide +kernel
theorem dX7_inSlot_66 : decode cX7_inSlot 66 = .ok (.getfield 29, 3) := by decide +kernel
theorem dX7_inSlot_69 : decode cX7_inSlot 69 = .ok (.iload 6, 2) := by decide +kernel
theorem dX7_inSlot_71 : decode cX7_inSlot 71 = .ok (.iaload, 1) := by decide +kernel
theorem dX7_inSlot_72 : decode cX7_inSlot 72 = .ok (.iload 5, 2) := by decide +kernel
theorem dX7_inSlot_74 : decode cX7_inSlot 74 = .ok (.irem, 1) := by decide +kernel
theorem dX7_inSlot_75 : decode cX7_inSlot 75 = .ok (.istore 7, 2) := by decide +kernel
theorem dX7_inSlot_77 : decode cX7_inSlot 77 = .ok (.iload 7, 2) := by decide +kernel
theorem dX7_inSlot_79 : decode cX7_inSlot 79 = .ok (.iload_n 3, 1) := by decide +kernel
theorem dX7_inSlot_80 : decode cX7_inSlot 80 = .ok (.if_icmp .ne 17, 3) := by decide +kernel
theorem dX7_inSlot_83 : decode cX7_inSlot 83 = .ok (.iload 7, 2) := by decide +kernel
theorem dX7_inSlot_85 : decode cX7_inSlot 85 = .ok (.aload_n 0, 1) := by decide +kernel
theorem dX7_inSlot_86 : decode cX7_inSlot 86 = .ok (.getfield 7, 3) := by decide +kernel
theorem dX7_inSlot_89 : decode cX7_inSlot 89 = .ok (.if_icmp .ge 8, 3) := by decide +kernel
theorem dX7_inSlot_92 : decode cX7_inSlot 92 = .ok (.iload 6, 2) := by decide +kernel
theorem dX7_inSlot_94 : decode cX7_inSlot 94 = .ok (.goto 5, 3) := by decide +kernel
theorem dX7_inSlot_97 : decode cX7_inSlot 97 = .ok (.iload 4, 2) := by decide +kernel
theorem dX7_inSlot_99 : decode cX7_inSlot 99 = .ok (.istore 4, 2) := by decide +kernel
theorem dX7_inSlot_101 : decode cX7_inSlot 101 = .ok (.iinc 6 1, 3) := by decide +kernel
theorem dX7_inSlot_104 : decode cX7_inSlot 104 = .ok (.goto (-91), 3) := by decide +kernel
theorem dX7_inSlot_107 : decode cX7_inSlot 107 = .ok (.iload 4, 2) := by decide +kernel
theorem dX7_inSlot_109 : decode cX7_inSlot 109 = .ok (.ireturn, 1) := by decide +kernel
set_option maxRecDepth 20000 in
theorem ggX7_reservoirSize_X7_noStream : GoodIn wsX7_reservoirSize wsX7_noStream := goodIn_r _ [7, 8, 9, 6, 10, 11, 12, 13, 14, 15, 16, 17, 18, 19, 20, 21, 22, 23, 24, 25, 26, 27, 28] (by decide +kernel) (by decide +kernel)
set_option maxRecDepth 20000 in
theorem gX7_reservoirSize_X7_noStream : GoodIn wsX7_reservoirSize (wsV RX7 54 RX7 yX7_noStream wsX7_noStream) := goodIn_app (goodIn_of _ (by decide +kernel)) ggX7_reservoirSize_X7_noStream
theorem dX7_reservoirSize_0 : decode cX7_reservoirSize 0 = .ok (.aload_n 0, 1) := by decide +kernel
theorem dX7_reservoirSize_1 : decode cX7_reservoirSize 1 = .ok (.iload_n 1, 1) := by decide +kernel
theorem dX7_reservoirSize_2 : decode cX7_reservoirSize 2 = .ok (.iconst 1, 1) := by decide +kernel
theorem dX7_reservoirSize_3 : decode cX7_reservoirSize 3 = .ok (.invokevirtual 54, 3) := by decide +kernel
theorem dX7_reservoirSize_6 : decode cX7_reservoirSize 6 = .ok (.ifCond .eq 7, 3) := by decide +kernel
theorem dX7_reservoirSize_9 : decode cX7_reservoirSize 9 = .ok (.iconst 0, 1) := by decide +kernel
theorem dX7_reservoirSize_10 : decode cX7_reservoirSize 10 = .ok (.goto 29, 3) := by decide +kernel
theorem dX7_reservoirSize_13 : decode cX7_reservoirSize 13 = .ok (.aload_n 0, 1) := by decide +kernel
theorem dX7_reservoirSize_14 : decode cX7_reservoirSize 14 = .ok (.getfield 16, 3) := by decide +kernel
theorem dX7_reservoirSize_17 : decode cX7_reservoirSize 17 = .ok (.iload_n 1, 1) := by decide +kernel
theorem dX7_reservoirSize_18 : decode cX7_reservoirSize 18 = .ok (.iaload, 1) := by decide +kernel
theorem dX7_reservoirSize_19 : decode cX7_reservoirSize 19 = .ok (.aload_n 0, 1) := by decide +kernel
theorem dX7_reservoirSize_20 : decode cX7_reservoirSize 20 = .ok (.getfield 7, 3) := by decide +kernel
theorem dX7_reservoirSize_23 : decode cX7_reservoirSize 23 = .ok (.if_icmp .ge 12, 3) := by decide +kernel
theorem dX7_reservoirSize_26 : decode cX7_reservoirSize 26 = .ok (.aload_n 0, 1) := by decide +kernel
theorem dX7_reservoirSize_27 : decode cX7_reservoirSize 27 = .ok (.getfield 16, 3) := by decide +kernel
theorem dX7_reservoirSize_30 : decode cX7_reservoirSize 30 = .ok (.iload_n 1, 1) := by decide +kernel
theorem dX7_reservoirSize_31 : decode cX7_reservoirSize 31 = .ok (.iaload, 1) := by decide +kernel
theorem dX7_reservoirSize_32 : decode cX7_reservoirSize 32 = .ok (.goto 7, 3) := by decide +kernel
theorem dX7_reservoirSize_35 : decode cX7_reservoirSize 35 = .ok (.aload_n 0, 1) := by decide +kernel
theorem dX7_reservoirSize_36 : decode cX7_reservoirSize 36 = .ok (.getfield 7, 3) := by decide +kernel
theorem dX7_reservoirSize_39 : decode cX7_reservoirSize 39 = .ok (.ireturn, 1) := by decide +kernel
set_option maxRecDepth 20000 in
theorem ggX7_slotOf_X7_in : GoodIn wsX7_slotOf wsX7_in := goodIn_r _ [4] (by decide +kernel) (by decide +kernel)
set_option maxRecDepth 20000 in
theorem gX7_slotOf_X7_in : GoodIn wsX7_slotOf (va_wsS RX7 45 yX7_in wsX7_in) := goodIn_app (goodIn_of _ (by decide +kernel)) ggX7_slotOf_X7_in
set_option maxRecDepth 20000 in
theorem ggX7_slotOf_X7_inSlot : GoodIn wsX7_slotOf wsX7_inSlot := goodIn_r _ [8, 9, 10, 11, 12, 18, 19, 20, 21, 22, 23, 24, 25, 26, 27, 28, 29, 30] (by decide +kernel) (by decide +kernel)
set_option maxRecDepth 20000 in
theorem gX7_slotOf_X7_inSlot : GoodIn wsX7_slotOf (wsV RX7 64 RX7 yX7_inSlot wsX7_inSlot) := goodIn_app (goodIn_of _ (by decide +kernel)) ggX7_slotOf_X7_inSlot
set_option maxRecDepth 20000 in
theorem ggX7_slotOf_X7_refused : GoodIn wsX7_slotOf wsX7_refused := goodIn_r _ [16, 17, 18, 19, 20, 21, 22, 23, 24, 25, 26, 27, 28, 29, 30] (by decide +kernel) (by decide +kernel)
set_option maxRecDepth 20000 in
theorem gX7_slotOf_X7_refused : GoodIn wsX7_slotOf (wsV RX7 49 RX7 yX7_refused wsX7_refused) := goodIn_app (goodIn_of _ (by decide +kernel)) ggX7_slotOf_X7_refused
theorem dX7_slotOf_0 : decode cX7_slotOf 0 = .ok (.iload_n 1, 1) := by decide +kernel
theorem dX7_slotOf_1 : decode cX7_slotOf 1 = .ok (.iconst 0, 1) := by decide +kernel
theorem dX7_slotOf_2 : decode cX7_slotOf 2 = .ok (.iconst 1, 1) := by decide +kernel
theorem dX7_slotOf_3 : decode cX7_slotOf 3 = .ok (.invokestatic 45, 3) := by decide +kernel
end
section
theorem dX7_slotOf_6 : decode cX7_slotOf 6 = .ok (.ifCond .eq 16, 3) := by decide +kernel
theorem dX7_slotOf_9 : decode cX7_slotOf 9 = .ok (.iload_n 2, 1) := by decide +kernel
theorem dX7_slotOf_10 : decode cX7_slotOf 10 = .ok (.iconst (-1), 1) := by decide +kernel
theorem dX7_slotOf_11 : decode cX7_slotOf 11 = .ok (.iconst 3, 1) := by decide +kernel
theorem dX7_slotOf_12 : decode cX7_slotOf 12 = .ok (.invokestatic 45, 3) := by decide +kernel
theorem dX7_slotOf_15 : decode cX7_slotOf 15 = .ok (.ifCond .eq 7, 3) := by decide +kernel
theorem dX7_slotOf_18 : decode cX7_slotOf 18 = .ok (.iconst 1, 1) := by decide +kernel
theorem dX7_slotOf_19 : decode cX7_slotOf 19 = .ok (.goto 4, 3) := by decide +kernel
theorem dX7_slotOf_22 : decode cX7_slotOf 22 = .ok (.iconst 0, 1) := by decide +kernel
theorem dX7_slotOf_23 : decode cX7_slotOf 23 = .ok (.istore 4, 2) := by decide +kernel
theorem dX7_slotOf_25 : decode cX7_slotOf 25 = .ok (.iload 4, 2) := by decide +kernel
theorem dX7_slotOf_27 : decode cX7_slotOf 27 = .ok (.ifCond .eq 13, 3) := by decide +kernel
theorem dX7_slotOf_30 : decode cX7_slotOf 30 = .ok (.aload_n 0, 1) := by decide +kernel
theorem dX7_slotOf_31 : decode cX7_slotOf 31 = .ok (.iload_n 1, 1) := by decide +kernel
theorem dX7_slotOf_32 : decode cX7_slotOf 32 = .ok (.iload_n 2, 1) := by decide +kernel
theorem dX7_slotOf_33 : decode cX7_slotOf 33 = .ok (.iload_n 3, 1) := by decide +kernel
theorem dX7_slotOf_34 : decode cX7_slotOf 34 = .ok (.invokevirtual 64, 3) := by decide +kernel
theorem dX7_slotOf_37 : decode cX7_slotOf 37 = .ok (.goto 4, 3) := by decide +kernel
theorem dX7_slotOf_40 : decode cX7_slotOf 40 = .ok (.iconst (-1), 1) := by decide +kernel
theorem dX7_slotOf_41 : decode cX7_slotOf 41 = .ok (.istore 5, 2) := by decide +kernel
theorem dX7_slotOf_43 : decode cX7_slotOf 43 = .ok (.aload_n 0, 1) := by decide +kernel
theorem dX7_slotOf_44 : decode cX7_slotOf 44 = .ok (.iload 4, 2) := by decide +kernel
theorem dX7_slotOf_46 : decode cX7_slotOf 46 = .ok (.ifCond .ne 7, 3) := by decide +kernel
theorem dX7_slotOf_49 : decode cX7_slotOf 49 = .ok (.iconst 1, 1) := by decide +kernel
theorem dX7_slotOf_50 : decode cX7_slotOf 50 = .ok (.goto 14, 3) := by decide +kernel
theorem dX7_slotOf_53 : decode cX7_slotOf 53 = .ok (.iload 5, 2) := by decide +kernel
theorem dX7_slotOf_55 : decode cX7_slotOf 55 = .ok (.iconst (-1), 1) := by decide +kernel
theorem dX7_slotOf_56 : decode cX7_slotOf 56 = .ok (.if_icmp .ne 7, 3) := by decide +kernel
theorem dX7_slotOf_59 : decode cX7_slotOf 59 = .ok (.iconst 2, 1) := by decide +kernel
theorem dX7_slotOf_60 : decode cX7_slotOf 60 = .ok (.goto 4, 3) := by decide +kernel
theorem dX7_slotOf_63 : decode cX7_slotOf 63 = .ok (.iconst 0, 1) := by decide +kernel
theorem dX7_slotOf_64 : decode cX7_slotOf 64 = .ok (.invokevirtual 49, 3) := by decide +kernel
theorem dX7_slotOf_67 : decode cX7_slotOf 67 = .ok (.ifCond .eq 7, 3) := by decide +kernel
theorem dX7_slotOf_70 : decode cX7_slotOf 70 = .ok (.iconst (-1), 1) := by decide +kernel
theorem dX7_slotOf_71 : decode cX7_slotOf 71 = .ok (.goto 5, 3) := by decide +kernel
theorem dX7_slotOf_74 : decode cX7_slotOf 74 = .ok (.iload 5, 2) := by decide +kernel
theorem dX7_slotOf_76 : decode cX7_slotOf 76 = .ok (.ireturn, 1) := by decide +kernel
set_option maxRecDepth 20000 in
theorem ggX7_reservoirItem_X7_slotOf : GoodIn wsX7_reservoirItem wsX7_slotOf := goodIn_r _ [6, 7, 8, 5, 9, 10, 11, 12, 13, 14, 15, 16, 17, 18, 19, 20, 21, 22, 23, 24, 25, 26, 27, 28, 29, 30, 31, 32, 33, 34, 35] (by decide +kernel) (by decide +kernel)
set_option maxRecDepth 20000 in
theorem gX7_reservoirItem_X7_slotOf : GoodIn wsX7_reservoirItem (wsV RX7 68 RX7 yX7_slotOf wsX7_slotOf) := goodIn_app (goodIn_of _ (by decide +kernel)) ggX7_reservoirItem_X7_slotOf
theorem dX7_reservoirItem_0 : decode cX7_reservoirItem 0 = .ok (.aload_n 0, 1) := by decide +kernel
theorem dX7_reservoirItem_1 : decode cX7_reservoirItem 1 = .ok (.iload_n 1, 1) := by decide +kernel
theorem dX7_reservoirItem_2 : decode cX7_reservoirItem 2 = .ok (.iconst (-1), 1) := by decide +kernel
theorem dX7_reservoirItem_3 : decode cX7_reservoirItem 3 = .ok (.iload_n 2, 1) := by decide +kernel
theorem dX7_reservoirItem_4 : decode cX7_reservoirItem 4 = .ok (.invokevirtual 68, 3) := by decide +kernel
theorem dX7_reservoirItem_7 : decode cX7_reservoirItem 7 = .ok (.istore_n 3, 1) := by decide +kernel
theorem dX7_reservoirItem_8 : decode cX7_reservoirItem 8 = .ok (.iload_n 3, 1) := by decide +kernel
theorem dX7_reservoirItem_9 : decode cX7_reservoirItem 9 = .ok (.iconst (-1), 1) := by decide +kernel
theorem dX7_reservoirItem_10 : decode cX7_reservoirItem 10 = .ok (.if_icmp .ne 7, 3) := by decide +kernel
theorem dX7_reservoirItem_13 : decode cX7_reservoirItem 13 = .ok (.iconst 0, 1) := by decide +kernel
theorem dX7_reservoirItem_14 : decode cX7_reservoirItem 14 = .ok (.goto 9, 3) := by decide +kernel
theorem dX7_reservoirItem_17 : decode cX7_reservoirItem 17 = .ok (.aload_n 0, 1) := by decide +kernel
theorem dX7_reservoirItem_18 : decode cX7_reservoirItem 18 = .ok (.getfield 20, 3) := by decide +kernel
theorem dX7_reservoirItem_21 : decode cX7_reservoirItem 21 = .ok (.iload_n 3, 1) := by decide +kernel
theorem dX7_reservoirItem_22 : decode cX7_reservoirItem 22 = .ok (.iaload, 1) := by decide +kernel
theorem dX7_reservoirItem_23 : decode cX7_reservoirItem 23 = .ok (.ireturn, 1) := by decide +kernel
set_option maxRecDepth 20000 in
theorem ggX7_reservoirPosition_X7_slotOf : GoodIn wsX7_reservoirPosition wsX7_slotOf := goodIn_r _ [5, 6, 7, 4, 8, 9, 10, 11, 12, 13, 14, 15, 16, 17, 18, 19, 20, 21, 22, 23, 24, 25, 26, 27, 28, 29, 30, 31, 32, 33, 34] (by decide +kernel) (by decide +kernel)
set_option maxRecDepth 20000 in
theorem gX7_reservoirPosition_X7_slotOf : GoodIn wsX7_reservoirPosition (wsV RX7 68 RX7 yX7_slotOf wsX7_slotOf) := goodIn_app (goodIn_of _ (by decide +kernel)) ggX7_reservoirPosition_X7_slotOf
theorem dX7_reservoirPosition_0 : decode cX7_reservoirPosition 0 = .ok (.aload_n 0, 1) := by decide +kernel
theorem dX7_reservoirPosition_1 : decode cX7_reservoirPosition 1 = .ok (.iload_n 1, 1) := by decide +kernel
theorem dX7_reservoirPosition_2 : decode cX7_reservoirPosition 2 = .ok (.iconst (-1), 1) := by decide +kernel
theorem dX7_reservoirPosition_3 : decode cX7_reservoirPosition 3 = .ok (.iload_n 2, 1) := by decide +kernel
theorem dX7_reservoirPosition_4 : decode cX7_reservoirPosition 4 = .ok (.invokevirtual 68, 3) := by decide +kernel
theorem dX7_reservoirPosition_7 : decode cX7_reservoirPosition 7 = .ok (.istore_n 3, 1) := by decide +kernel
theorem dX7_reservoirPosition_8 : decode cX7_reservoirPosition 8 = .ok (.iload_n 3, 1) := by decide +kernel
theorem dX7_reservoirPosition_9 : decode cX7_reservoirPosition 9 = .ok (.iconst (-1), 1) := by decide +kernel
theorem dX7_reservoirPosition_10 : decode cX7_reservoirPosition 10 = .ok (.if_icmp .ne 7, 3) := by decide +kernel
theorem dX7_reservoirPosition_13 : decode cX7_reservoirPosition 13 = .ok (.iconst 0, 1) := by decide +kernel
theorem dX7_reservoirPosition_14 : decode cX7_reservoirPosition 14 = .ok (.goto 10, 3) := by decide +kernel
theorem dX7_reservoirPosition_17 : decode cX7_reservoirPosition 17 = .ok (.iload_n 3, 1) := by decide +kernel
theorem dX7_reservoirPosition_18 : decode cX7_reservoirPosition 18 = .ok (.sipush 300, 3) := by decide +kernel
theorem dX7_reservoirPosition_21 : decode cX7_reservoirPosition 21 = .ok (.irem, 1) := by decide +kernel
theorem dX7_reservoirPosition_22 : decode cX7_reservoirPosition 22 = .ok (.iconst 1, 1) := by decide +kernel
theorem dX7_reservoirPosition_23 : decode cX7_reservoirPosition 23 = .ok (.iadd, 1) := by decide +kernel
theorem dX7_reservoirPosition_24 : decode cX7_reservoirPosition 24 = .ok (.ireturn, 1) := by decide +kernel
set_option maxRecDepth 20000 in
theorem ggX7_groupOffers_X7_noGroup : GoodIn wsX7_groupOffers wsX7_noGroup := goodIn_r _ [6, 7, 8, 5, 9, 10, 11, 12, 13, 14, 20, 21, 22, 23, 24, 25, 26, 27, 28, 29, 30, 31, 32] (by decide +kernel) (by decide +kernel)
set_option maxRecDepth 20000 in
theorem gX7_groupOffers_X7_noGroup : GoodIn wsX7_groupOffers (wsV RX7 58 RX7 yX7_noGroup wsX7_noGroup) := goodIn_app (goodIn_of _ (by decide +kernel)) ggX7_groupOffers_X7_noGroup
set_option maxRecDepth 20000 in
theorem ggX7_groupOffers_X7_isOf : GoodIn wsX7_groupOffers wsX7_isOf := goodIn_r _ [18, 19, 20, 21, 22, 23, 24, 25, 26, 27, 28, 29, 30, 31, 32] (by decide +kernel) (by decide +kernel)
set_option maxRecDepth 20000 in
theorem gX7_groupOffers_X7_isOf : GoodIn wsX7_groupOffers (wsV RX7 61 RX7 yX7_isOf wsX7_isOf) := goodIn_app (goodIn_of _ (by decide +kernel)) ggX7_groupOffers_X7_isOf
theorem dX7_groupOffers_0 : decode cX7_groupOffers 0 = .ok (.aload_n 0, 1) := by decide +kernel
theorem dX7_groupOffers_1 : decode cX7_groupOffers 1 = .ok (.iload_n 1, 1) := by decide +kernel
theorem dX7_groupOffers_2 : decode cX7_groupOffers 2 = .ok (.iconst 1, 1) := by decide +kernel
theorem dX7_groupOffers_3 : decode cX7_groupOffers 3 = .ok (.iload_n 2, 1) := by decide +kernel
theorem dX7_groupOffers_4 : decode cX7_groupOffers 4 = .ok (.invokevirtual 58, 3) := by decide +kernel
theorem dX7_groupOffers_7 : decode cX7_groupOffers 7 = .ok (.ifCond .eq 5, 3) := by decide +kernel
theorem dX7_groupOffers_10 : decode cX7_groupOffers 10 = .ok (.iconst 0, 1) := by decide +kernel
theorem dX7_groupOffers_11 : decode cX7_groupOffers 11 = .ok (.ireturn, 1) := by decide +kernel
theorem dX7_groupOffers_12 : decode cX7_groupOffers 12 = .ok (.iconst 0, 1) := by decide +kernel
theorem dX7_groupOffers_13 : decode cX7_groupOffers 13 = .ok (.istore_n 3, 1) := by decide +kernel
theorem dX7_groupOffers_14 : decode cX7_groupOffers 14 = .ok (.iconst 0, 1) := by decide +kernel
theorem dX7_groupOffers_15 : decode cX7_groupOffers 15 = .ok (.istore 4, 2) := by decide +kernel
theorem dX7_groupOffers_17 : decode cX7_groupOffers 17 = .ok (.iload 4, 2) := by decide +kernel
theorem dX7_groupOffers_19 : decode cX7_groupOffers 19 = .ok (.sipush 600, 3) := by decide +kernel
theorem dX7_groupOffers_22 : decode cX7_groupOffers 22 = .ok (.if_icmp .ge 38, 3) := by decide +kernel
theorem dX7_groupOffers_25 : decode cX7_groupOffers 25 = .ok (.iload_n 3, 1) := by decide +kernel
theorem dX7_groupOffers_26 : decode cX7_groupOffers 26 = .ok (.aload_n 0, 1) := by decide +kernel
theorem dX7_groupOffers_27 : decode cX7_groupOffers 27 = .ok (.iload_n 1, 1) := by decide +kernel
theorem dX7_groupOffers_28 : decode cX7_groupOffers 28 = .ok (.iload 4, 2) := by decide +kernel
theorem dX7_groupOffers_30 : decode cX7_groupOffers 30 = .ok (.invokevirtual 61, 3) := by decide +kernel
theorem dX7_groupOffers_33 : decode cX7_groupOffers 33 = .ok (.ifCond .eq 18, 3) := by decide +kernel
theorem dX7_groupOffers_36 : decode cX7_groupOffers 36 = .ok (.aload_n 0, 1) := by decide +kernel
theorem dX7_groupOffers_37 : decode cX7_groupOffers 37 = .ok (.getfield 26, 3) := by decide +kernel
theorem dX7_groupOffers_40 : decode cX7_groupOffers 40 = .ok (.iload 4, 2) := by decide +kernel
theorem dX7_groupOffers_42 : decode cX7_groupOffers 42 = .ok (.iaload, 1) := by decide +kernel
theorem dX7_groupOffers_43 : decode cX7_groupOffers 43 = .ok (.iload_n 2, 1) := by decide +kernel
theorem dX7_groupOffers_44 : decode cX7_groupOffers 44 = .ok (.if_icmp .ne 7, 3) := by decide +kernel
theorem dX7_groupOffers_47 : decode cX7_groupOffers 47 = .ok (.iconst 1, 1) := by decide +kernel
theorem dX7_groupOffers_48 : decode cX7_groupOffers 48 = .ok (.goto 4, 3) := by decide +kernel
theorem dX7_groupOffers_51 : decode cX7_groupOffers 51 = .ok (.iconst 0, 1) := by decide +kernel
theorem dX7_groupOffers_52 : decode cX7_groupOffers 52 = .ok (.iadd, 1) := by decide +kernel
theorem dX7_groupOffers_53 : decode cX7_groupOffers 53 = .ok (.istore_n 3, 1) := by decide +kernel
theorem dX7_groupOffers_54 : decode cX7_groupOffers 54 = .ok (.iinc 4 1, 3) := by decide +kernel
theorem dX7_groupOffers_57 : decode cX7_groupOffers 57 = .ok (.goto (-40), 3) := by decide +kernel
theorem dX7_groupOffers_60 : decode cX7_groupOffers 60 = .ok (.iload_n 3, 1) := by decide +kernel
theorem dX7_groupOffers_61 : decode cX7_groupOffers 61 = .ok (.ireturn, 1) := by decide +kernel
set_option maxRecDepth 20000 in
theorem ggX7_groupItem_X7_noGroup : GoodIn wsX7_groupItem wsX7_noGroup := goodIn_r _ [6, 7, 8, 5, 9, 10, 11, 12, 13, 14, 27, 28, 29, 30, 31, 32, 33, 34, 35, 36, 37, 38, 39] (by decide +kernel) (by decide +kernel)
set_option maxRecDepth 20000 in
theorem gX7_groupItem_X7_noGroup : GoodIn wsX7_groupItem (wsV RX7 58 RX7 yX7_noGroup wsX7_noGroup) := goodIn_app (goodIn_of _ (by decide +kernel)) ggX7_groupItem_X7_noGroup
set_option maxRecDepth 20000 in
theorem ggX7_groupItem_X7_slotOf : GoodIn wsX7_groupItem wsX7_slotOf := goodIn_r _ [18, 7, 8, 5, 9, 19, 20, 21, 22, 23, 24, 25, 26, 10, 11, 12, 13, 14, 27, 28, 29, 30, 31, 32, 33, 34, 35, 36, 37, 38, 39] (by decide +kernel) (by decide +kernel)
set_option maxRecDepth 20000 in
theorem gX7_groupItem_X7_slotOf : GoodIn wsX7_groupItem (wsV RX7 68 RX7 yX7_slotOf wsX7_slotOf) := goodIn_app (goodIn_of _ (by decide +kernel)) ggX7_groupItem_X7_slotOf
theorem dX7_groupItem_0 : decode cX7_groupItem 0 = .ok (.aload_n 0, 1) := by decide +kernel
theorem dX7_groupItem_1 : decode cX7_groupItem 1 = .ok (.iload_n 1, 1) := by decide +kernel
theorem dX7_groupItem_2 : decode cX7_groupItem 2 = .ok (.iconst 1, 1) := by decide +kernel
theorem dX7_groupItem_3 : decode cX7_groupItem 3 = .ok (.iload_n 2, 1) := by decide +kernel
theorem dX7_groupItem_4 : decode cX7_groupItem 4 = .ok (.invokevirtual 58, 3) := by decide +kernel
theorem dX7_groupItem_7 : decode cX7_groupItem 7 = .ok (.ifCond .eq 5, 3) := by decide +kernel
theorem dX7_groupItem_10 : decode cX7_groupItem 10 = .ok (.iconst 0, 1) := by decide +kernel
theorem dX7_groupItem_11 : decode cX7_groupItem 11 = .ok (.ireturn, 1) := by decide +kernel
theorem dX7_groupItem_12 : decode cX7_groupItem 12 = .ok (.aload_n 0, 1) := by decide +kernel
theorem dX7_groupItem_13 : decode cX7_groupItem 13 = .ok (.iload_n 1, 1) := by decide +kernel
theorem dX7_groupItem_14 : decode cX7_groupItem 14 = .ok (.iload_n 2, 1) := by decide +kernel
theorem dX7_groupItem_15 : decode cX7_groupItem 15 = .ok (.iload_n 3, 1) := by decide +kernel
theorem dX7_groupItem_16 : decode cX7_groupItem 16 = .ok (.invokevirtual 68, 3) := by decide +kernel
theorem dX7_groupItem_19 : decode cX7_groupItem 19 = .ok (.istore 4, 2) := by decide +kernel
theorem dX7_groupItem_21 : decode cX7_groupItem 21 = .ok (.iload 4, 2) := by decide +kernel
theorem dX7_groupItem_23 : decode cX7_groupItem 23 = .ok (.iconst (-1), 1) := by decide +kernel
theorem dX7_groupItem_24 : decode cX7_groupItem 24 = .ok (.if_icmp .ne 7, 3) := by decide +kernel
theorem dX7_groupItem_27 : decode cX7_groupItem 27 = .ok (.iconst 0, 1) := by decide +kernel
theorem dX7_groupItem_28 : decode cX7_groupItem 28 = .ok (.goto 10, 3) := by decide +kernel
theorem dX7_groupItem_31 : decode cX7_groupItem 31 = .ok (.aload_n 0, 1) := by decide +kernel
theorem dX7_groupItem_32 : decode cX7_groupItem 32 = .ok (.getfield 20, 3) := by decide +kernel
theorem dX7_groupItem_35 : decode cX7_groupItem 35 = .ok (.iload 4, 2) := by decide +kernel
theorem dX7_groupItem_37 : decode cX7_groupItem 37 = .ok (.iaload, 1) := by decide +kernel
theorem dX7_groupItem_38 : decode cX7_groupItem 38 = .ok (.ireturn, 1) := by decide +kernel
theorem dX7_isAhead_0 : decode cX7_isAhead 0 = .ok (.aload_n 0, 1) := by decide +kernel
theorem dX7_isAhead_1 : decode cX7_isAhead 1 = .ok (.getfield 23, 3) := by decide +kernel
theorem dX7_isAhead_4 : decode cX7_isAhead 4 = .ok (.iload_n 1, 1) := by decide +kernel
theorem dX7_isAhead_5 : decode cX7_isAhead 5 = .ok (.iaload, 1) := by decide +kernel
theorem dX7_isAhead_6 : decode cX7_isAhead 6 = .ok (.i2l, 1) := by decide +kernel
theorem dX7_isAhead_7 : decode cX7_isAhead 7 = .ok (.aload_n 0, 1) := by decide +kernel
theorem dX7_isAhead_8 : decode cX7_isAhead 8 = .ok (.getfield 29, 3) := by decide +kernel
theorem dX7_isAhead_11 : decode cX7_isAhead 11 = .ok (.iload_n 2, 1) := by decide +kernel
theorem dX7_isAhead_12 : decode cX7_isAhead 12 = .ok (.iaload, 1) := by decide +kernel
theorem dX7_isAhead_13 : decode cX7_isAhead 13 = .ok (.i2l, 1) := by decide +kernel
theorem dX7_isAhead_14 : decode cX7_isAhead 14 = .ok (.lconst 1, 1) := by decide +kernel
theorem dX7_isAhead_15 : decode cX7_isAhead 15 = .ok (.ladd, 1) := by decide +kernel
theorem dX7_isAhead_16 : decode cX7_isAhead 16 = .ok (.lmul, 1) := by decide +kernel
theorem dX7_isAhead_17 : decode cX7_isAhead 17 = .ok (.lstore_n 3, 1) := by decide +kernel
theorem dX7_isAhead_18 : decode cX7_isAhead 18 = .ok (.aload_n 0, 1) := by decide +kernel
theorem dX7_isAhead_19 : decode cX7_isAhead 19 = .ok (.getfield 23, 3) := by decide +kernel
theorem dX7_isAhead_22 : decode cX7_isAhead 22 = .ok (.iload_n 2, 1) := by decide +kernel
theorem dX7_isAhead_23 : decode cX7_isAhead 23 = .ok (.iaload, 1) := by decide +kernel
theorem dX7_isAhead_24 : decode cX7_isAhead 24 = .ok (.i2l, 1) := by decide +kernel
theorem dX7_isAhead_25 : decode cX7_isAhead 25 = .ok (.aload_n 0, 1) := by decide +kernel
theorem dX7_isAhead_26 : decode cX7_isAhead 26 = .ok (.getfield 29, 3) := by decide +kernel
theorem dX7_isAhead_29 : decode cX7_isAhead 29 = .ok (.iload_n 1, 1) := by decide +kernel
theorem dX7_isAhead_30 : decode cX7_isAhead 30 = .ok (.iaload, 1) := by decide +kernel
theorem dX7_isAhead_31 : decode cX7_isAhead 31 = .ok (.i2l, 1) := by decide +kernel
theorem dX7_isAhead_32 : decode cX7_isAhead 32 = .ok (.lconst 1, 1) := by decide +kernel
theorem dX7_isAhead_33 : decode cX7_isAhead 33 = .ok (.ladd, 1) := by decide +kernel
theorem dX7_isAhead_34 : decode cX7_isAhead 34 = .ok (.lmul, 1) := by decide +kernel
theorem dX7_isAhead_35 : decode cX7_isAhead 35 = .ok (.lstore 5, 2) := by decide +kernel
theorem dX7_isAhead_37 : decode cX7_isAhead 37 = .ok (.lload_n 3, 1) := by decide +kernel
theorem dX7_isAhead_38 : decode cX7_isAhead 38 = .ok (.lload 5, 2) := by decide +kernel
theorem dX7_isAhead_40 : decode cX7_isAhead 40 = .ok (.lcmp, 1) := by decide +kernel
theorem dX7_isAhead_41 : decode cX7_isAhead 41 = .ok (.ifCond .gt 15, 3) := by decide +kernel
theorem dX7_isAhead_44 : decode cX7_isAhead 44 = .ok (.lload_n 3, 1) := by decide +kernel
theorem dX7_isAhead_45 : decode cX7_isAhead 45 = .ok (.lload 5, 2) := by decide +kernel
theorem dX7_isAhead_47 : decode cX7_isAhead 47 = .ok (.lcmp, 1) := by decide +kernel
theorem dX7_isAhead_48 : decode cX7_isAhead 48 = .ok (.ifCond .ne 12, 3) := by decide +kernel
theorem dX7_isAhead_51 : decode cX7_isAhead 51 = .ok (.iload_n 1, 1) := by decide +kernel
theorem dX7_isAhead_52 : decode cX7_isAhead 52 = .ok (.iload_n 2, 1) := by decide +kernel
theorem dX7_isAhead_53 : decode cX7_isAhead 53 = .ok (.if_icmp .ge 7, 3) := by decide +kernel
theorem dX7_isAhead_56 : decode cX7_isAhead 56 = .ok (.iconst 1, 1) := by decide +kernel
theorem dX7_isAhead_57 : decode cX7_isAhead 57 = .ok (.goto 4, 3) := by decide +kernel
theorem dX7_isAhead_60 : decode cX7_isAhead 60 = .ok (.iconst 0, 1) := by decide +kernel
theorem dX7_isAhead_61 : decode cX7_isAhead 61 = .ok (.ireturn, 1) := by decide +kernel
set_option maxRecDepth 20000 in
theorem ggX7_ranked_X7_isOf : GoodIn wsX7_ranked wsX7_isOf := goodIn_r _ [5, 6, 13, 14, 15, 16, 17, 18, 19, 20, 21, 22, 23, 24, 25] (by decide +kernel) (by decide +kernel)
set_option maxRecDepth 20000 in
theorem gX7_ranked_X7_isOf : GoodIn wsX7_ranked (wsV RX7 61 RX7 yX7_isOf wsX7_isOf) := goodIn_app (goodIn_of _ (by decide +kernel)) ggX7_ranked_X7_isOf
set_option maxRecDepth 20000 in
theorem ggX7_ranked_X7_isAhead : GoodIn wsX7_ranked wsX7_isAhead := goodIn_r _ [10, 11, 12, 13, 14, 15, 16, 17, 18, 19, 20, 21, 22, 23, 24, 25] (by decide +kernel) (by decide +kernel)
set_option maxRecDepth 20000 in
theorem gX7_ranked_X7_isAhead : GoodIn wsX7_ranked (wsV RX7 71 RX7 yX7_isAhead wsX7_isAhead) := goodIn_app (goodIn_of _ (by decide +kernel)) ggX7_ranked_X7_isAhead
theorem dX7_ranked_0 : decode cX7_ranked 0 = .ok (.iconst (-1), 1) := by decide +kernel
theorem dX7_ranked_1 : decode cX7_ranked 1 = .ok (.istore_n 3, 1) := by decide +kernel
theorem dX7_ranked_2 : decode cX7_ranked 2 = .ok (.iconst 0, 1) := by decide +kernel
theorem dX7_ranked_3 : decode cX7_ranked 3 = .ok (.istore 4, 2) := by decide +kernel
theorem dX7_ranked_5 : decode cX7_ranked 5 = .ok (.iload 4, 2) := by decide +kernel
theorem dX7_ranked_7 : decode cX7_ranked 7 = .ok (.sipush 600, 3) := by decide +kernel
theorem dX7_ranked_10 : decode cX7_ranked 10 = .ok (.if_icmp .ge 95, 3) := by decide +kernel
theorem dX7_ranked_13 : decode cX7_ranked 13 = .ok (.iload_n 3, 1) := by decide +kernel
theorem dX7_ranked_14 : decode cX7_ranked 14 = .ok (.iconst (-1), 1) := by decide +kernel
theorem dX7_ranked_15 : decode cX7_ranked 15 = .ok (.if_icmp .ne 90, 3) := by decide +kernel
theorem dX7_ranked_18 : decode cX7_ranked 18 = .ok (.aload_n 0, 1) := by decide +kernel
theorem dX7_ranked_19 : decode cX7_ranked 19 = .ok (.iload_n 1, 1) := by decide +kernel
theorem dX7_ranked_20 : decode cX7_ranked 20 = .ok (.iload 4, 2) := by decide +kernel
theorem dX7_ranked_22 : decode cX7_ranked 22 = .ok (.invokevirtual 61, 3) := by decide +kernel
theorem dX7_ranked_25 : decode cX7_ranked 25 = .ok (.ifCond .eq 74, 3) := by decide +kernel
theorem dX7_ranked_28 : decode cX7_ranked 28 = .ok (.iconst 0, 1) := by decide +kernel
theorem dX7_ranked_29 : decode cX7_ranked 29 = .ok (.istore 5, 2) := by decide +kernel
theorem dX7_ranked_31 : decode cX7_ranked 31 = .ok (.iconst 0, 1) := by decide +kernel
theorem dX7_ranked_32 : decode cX7_ranked 32 = .ok (.istore 6, 2) := by decide +kernel
theorem dX7_ranked_34 : decode cX7_ranked 34 = .ok (.iload 6, 2) := by decide +kernel
theorem dX7_ranked_36 : decode cX7_ranked 36 = .ok (.sipush 600, 3) := by decide +kernel
theorem dX7_ranked_39 : decode cX7_ranked 39 = .ok (.if_icmp .ge 47, 3) := by decide +kernel
theorem dX7_ranked_42 : decode cX7_ranked 42 = .ok (.iload 5, 2) := by decide +kernel
theorem dX7_ranked_44 : decode cX7_ranked 44 = .ok (.aload_n 0, 1) := by decide +kernel
theorem dX7_ranked_45 : decode cX7_ranked 45 = .ok (.iload_n 1, 1) := by decide +kernel
theorem dX7_ranked_46 : decode cX7_ranked 46 = .ok (.iload 6, 2) := by decide +kernel
theorem dX7_ranked_48 : decode cX7_ranked 48 = .ok (.invokevirtual 61, 3) := by decide +kernel
theorem dX7_ranked_51 : decode cX7_ranked 51 = .ok (.ifCond .eq 25, 3) := by decide +kernel
theorem dX7_ranked_54 : decode cX7_ranked 54 = .ok (.iload 6, 2) := by decide +kernel
theorem dX7_ranked_56 : decode cX7_ranked 56 = .ok (.iload 4, 2) := by decide +kernel
theorem dX7_ranked_58 : decode cX7_ranked 58 = .ok (.if_icmp .eq 18, 3) := by decide +kernel
theorem dX7_ranked_61 : decode cX7_ranked 61 = .ok (.aload_n 0, 1) := by decide +kernel
theorem dX7_ranked_62 : decode cX7_ranked 62 = .ok (.iload 6, 2) := by decide +kernel
theorem dX7_ranked_64 : decode cX7_ranked 64 = .ok (.iload 4, 2) := by decide +kernel
theorem dX7_ranked_66 : decode cX7_ranked 66 = .ok (.invokevirtual 71, 3) := by decide +kernel
theorem dX7_ranked_69 : decode cX7_ranked 69 = .ok (.ifCond .eq 7, 3) := by decide +kernel
theorem dX7_ranked_72 : decode cX7_ranked 72 = .ok (.iconst 1, 1) := by decide +kernel
theorem dX7_ranked_73 : decode cX7_ranked 73 = .ok (.goto 4, 3) := by decide +kernel
theorem dX7_ranked_76 : decode cX7_ranked 76 = .ok (.iconst 0, 1) := by decide +kernel
theorem dX7_ranked_77 : decode cX7_ranked 77 = .ok (.iadd, 1) := by decide +kernel
theorem dX7_ranked_78 : decode cX7_ranked 78 = .ok (.istore 5, 2) := by decide +kernel
theorem dX7_ranked_80 : decode cX7_ranked 80 = .ok (.iinc 6 1, 3) := by decide +kernel
theorem dX7_ranked_83 : decode cX7_ranked 83 = .ok (.goto (-49), 3) := by decide +kernel
theorem dX7_ranked_86 : decode cX7_ranked 86 = .ok (.iload 5, 2) := by decide +kernel
theorem dX7_ranked_88 : decode cX7_ranked 88 = .ok (.iload_n 2, 1) := by decide +kernel
theorem dX7_ranked_89 : decode cX7_ranked 89 = .ok (.if_icmp .ne 8, 3) := by decide +kernel
theorem dX7_ranked_92 : decode cX7_ranked 92 = .ok (.iload 4, 2) := by decide +kernel
theorem dX7_ranked_94 : decode cX7_ranked 94 = .ok (.goto 4, 3) := by decide +kernel
theorem dX7_ranked_97 : decode cX7_ranked 97 = .ok (.iconst (-1), 1) := by decide +kernel
theorem dX7_ranked_98 : decode cX7_ranked 98 = .ok (.istore_n 3, 1) := by decide +kernel
theorem dX7_ranked_99 : decode cX7_ranked 99 = .ok (.iinc 4 1, 3) := by decide +kernel
theorem dX7_ranked_102 : decode cX7_ranked 102 = .ok (.goto (-97), 3) := by decide +kernel
theorem dX7_ranked_105 : decode cX7_ranked 105 = .ok (.iload_n 3, 1) := by decide +kernel
theorem dX7_ranked_106 : decode cX7_ranked 106 = .ok (.ireturn, 1) := by decide +kernel
theorem dX7_all_0 : decode cX7_all 0 = .ok (.iload_n 1, 1) := by decide +kernel
theorem dX7_all_1 : decode cX7_all 1 = .ok (.iconst 2, 1) := by decide +kernel
theorem dX7_all_2 : decode cX7_all 2 = .ok (.if_icmp .ne 19, 3) := by decide +kernel
theorem dX7_all_5 : decode cX7_all 5 = .ok (.aload_n 0, 1) := by decide +kernel
theorem dX7_all_6 : decode cX7_all 6 = .ok (.getfield 16, 3) := by decide +kernel
theorem dX7_all_9 : decode cX7_all 9 = .ok (.iconst 0, 1) := by decide +kernel
theorem dX7_all_10 : decode cX7_all 10 = .ok (.iaload, 1) := by decide +kernel
theorem dX7_all_11 : decode cX7_all 11 = .ok (.aload_n 0, 1) := by decide +kernel
theorem dX7_all_12 : decode cX7_all 12 = .ok (.getfield 16, 3) := by decide +kernel
theorem dX7_all_15 : decode cX7_all 15 = .ok (.iconst 1, 1) := by decide +kernel
theorem dX7_all_16 : decode cX7_all 16 = .ok (.iaload, 1) := by decide +kernel
theorem dX7_all_17 : decode cX7_all 17 = .ok (.iadd, 1) := by decide +kernel
theorem dX7_all_18 : decode cX7_all 18 = .ok (.goto 9, 3) := by decide +kernel
theorem dX7_all_21 : decode cX7_all 21 = .ok (.aload_n 0, 1) := by decide +kernel
theorem dX7_all_22 : decode cX7_all 22 = .ok (.getfield 16, 3) := by decide +kernel
theorem dX7_all_25 : decode cX7_all 25 = .ok (.iload_n 1, 1) := by decide +kernel
theorem dX7_all_26 : decode cX7_all 26 = .ok (.iaload, 1) := by decide +kernel
theorem dX7_all_27 : decode cX7_all 27 = .ok (.ireturn, 1) := by decide +kernel
set_option maxRecDepth 20000 in
theorem ggX7_sampled_X7_all : GoodIn wsX7_sampled wsX7_all := goodIn_r _ [6, 7, 8, 9, 10, 11, 12, 13, 14, 15, 16, 17, 18, 19, 20] (by decide +kernel) (by decide +kernel)
set_option maxRecDepth 20000 in
theorem gX7_sampled_X7_all : GoodIn wsX7_sampled (wsV RX7 74 RX7 yX7_all wsX7_all) := goodIn_app (goodIn_of _ (by decide +kernel)) ggX7_sampled_X7_all
theorem dX7_sampled_0 : decode cX7_sampled 0 = .ok (.aload_n 0, 1) := by decide +kernel
theorem dX7_sampled_1 : decode cX7_sampled 1 = .ok (.iload_n 1, 1) := by decide +kernel
theorem dX7_sampled_2 : decode cX7_sampled 2 = .ok (.invokevirtual 74, 3) := by decide +kernel
theorem dX7_sampled_5 : decode cX7_sampled 5 = .ok (.aload_n 0, 1) := by decide +kernel
theorem dX7_sampled_6 : decode cX7_sampled 6 = .ok (.getfield 7, 3) := by decide +kernel
theorem dX7_sampled_9 : decode cX7_sampled 9 = .ok (.if_icmp .ge 11, 3) := by decide +kernel
theorem dX7_sampled_12 : decode cX7_sampled 12 = .ok (.aload_n 0, 1) := by decide +kernel
theorem dX7_sampled_13 : decode cX7_sampled 13 = .ok (.iload_n 1, 1) := by decide +kernel
theorem dX7_sampled_14 : decode cX7_sampled 14 = .ok (.invokevirtual 74, 3) := by decide +kernel
theorem dX7_sampled_17 : decode cX7_sampled 17 = .ok (.goto 7, 3) := by decide +kernel
theorem dX7_sampled_20 : decode cX7_sampled 20 = .ok (.aload_n 0, 1) := by decide +kernel
theorem dX7_sampled_21 : decode cX7_sampled 21 = .ok (.getfield 7, 3) := by decide +kernel
theorem dX7_sampled_24 : decode cX7_sampled 24 = .ok (.ireturn, 1) := by decide +kernel
set_option maxRecDepth 20000 in
theorem ggX7_thresholdOf_X7_ranked : GoodIn wsX7_thresholdOf wsX7_ranked := goodIn_r _ [9, 10, 11, 12, 8, 13, 14, 15, 16, 17, 18, 2, 4, 19, 20, 21, 22, 23, 24, 25, 26, 27, 28, 29, 30, 31] (by decide +kernel) (by decide +kernel)
set_option maxRecDepth 20000 in
theorem gX7_thresholdOf_X7_ranked : GoodIn wsX7_thresholdOf (wsV RX7 78 RX7 yX7_ranked wsX7_ranked) := goodIn_app (goodIn_of _ (by decide +kernel)) ggX7_thresholdOf_X7_ranked
theorem dX7_thresholdOf_0 : decode cX7_thresholdOf 0 = .ok (.aload_n 0, 1) := by decide +kernel
theorem dX7_thresholdOf_1 : decode cX7_thresholdOf 1 = .ok (.iload_n 1, 1) := by decide +kernel
theorem dX7_thresholdOf_2 : decode cX7_thresholdOf 2 = .ok (.aload_n 0, 1) := by decide +kernel
theorem dX7_thresholdOf_3 : decode cX7_thresholdOf 3 = .ok (.getfield 7, 3) := by decide +kernel
theorem dX7_thresholdOf_6 : decode cX7_thresholdOf 6 = .ok (.invokevirtual 78, 3) := by decide +kernel
theorem dX7_thresholdOf_9 : decode cX7_thresholdOf 9 = .ok (.istore_n 2, 1) := by decide +kernel
theorem dX7_thresholdOf_10 : decode cX7_thresholdOf 10 = .ok (.iload_n 2, 1) := by decide +kernel
theorem dX7_thresholdOf_11 : decode cX7_thresholdOf 11 = .ok (.iconst (-1), 1) := by decide +kernel
theorem dX7_thresholdOf_12 : decode cX7_thresholdOf 12 = .ok (.if_icmp .ne 7, 3) := by decide +kernel
theorem dX7_thresholdOf_15 : decode cX7_thresholdOf 15 = .ok (.lconst 0, 1) := by decide +kernel
theorem dX7_thresholdOf_16 : decode cX7_thresholdOf 16 = .ok (.goto 24, 3) := by decide +kernel
theorem dX7_thresholdOf_19 : decode cX7_thresholdOf 19 = .ok (.aload_n 0, 1) := by decide +kernel
theorem dX7_thresholdOf_20 : decode cX7_thresholdOf 20 = .ok (.getfield 23, 3) := by decide +kernel
theorem dX7_thresholdOf_23 : decode cX7_thresholdOf 23 = .ok (.iload_n 2, 1) := by decide +kernel
theorem dX7_thresholdOf_24 : decode cX7_thresholdOf 24 = .ok (.iaload, 1) := by decide +kernel
theorem dX7_thresholdOf_25 : decode cX7_thresholdOf 25 = .ok (.i2l, 1) := by decide +kernel
theorem dX7_thresholdOf_26 : decode cX7_thresholdOf 26 = .ok (.ldc2_w 82, 3) := by decide +kernel
theorem dX7_thresholdOf_29 : decode cX7_thresholdOf 29 = .ok (.lmul, 1) := by decide +kernel
theorem dX7_thresholdOf_30 : decode cX7_thresholdOf 30 = .ok (.aload_n 0, 1) := by decide +kernel
theorem dX7_thresholdOf_31 : decode cX7_thresholdOf 31 = .ok (.getfield 29, 3) := by decide +kernel
theorem dX7_thresholdOf_34 : decode cX7_thresholdOf 34 = .ok (.iload_n 2, 1) := by decide +kernel
theorem dX7_thresholdOf_35 : decode cX7_thresholdOf 35 = .ok (.iaload, 1) := by decide +kernel
theorem dX7_thresholdOf_36 : decode cX7_thresholdOf 36 = .ok (.i2l, 1) := by decide +kernel
theorem dX7_thresholdOf_37 : decode cX7_thresholdOf 37 = .ok (.lconst 1, 1) := by decide +kernel
theorem dX7_thresholdOf_38 : decode cX7_thresholdOf 38 = .ok (.ladd, 1) := by decide +kernel
theorem dX7_thresholdOf_39 : decode cX7_thresholdOf 39 = .ok (.ldiv, 1) := by decide +kernel
theorem dX7_thresholdOf_40 : decode cX7_thresholdOf 40 = .ok (.lreturn, 1) := by decide +kernel
set_option maxRecDepth 20000 in
theorem ggX7_prioritySize_X7_noStream : GoodIn wsX7_prioritySize wsX7_noStream := goodIn_r _ [5, 6, 7, 4, 8, 9, 10, 11, 12, 13, 24, 25, 26, 27, 28, 29, 30, 31, 32, 33, 34, 35, 36] (by decide +kernel) (by decide +kernel)
set_option maxRecDepth 20000 in
theorem gX7_prioritySize_X7_noStream : GoodIn wsX7_prioritySize (wsV RX7 54 RX7 yX7_noStream wsX7_noStream) := goodIn_app (goodIn_of _ (by decide +kernel)) ggX7_prioritySize_X7_noStream
set_option maxRecDepth 20000 in
theorem ggX7_prioritySize_X7_sampled : GoodIn wsX7_prioritySize wsX7_sampled := goodIn_r _ [17, 18, 19, 20, 21, 4, 22, 23, 24, 25, 26, 27, 28, 29, 30, 31, 32, 33, 34, 35, 36] (by decide +kernel) (by decide +kernel)
set_option maxRecDepth 20000 in
theorem gX7_prioritySize_X7_sampled : GoodIn wsX7_prioritySize (wsV RX7 84 RX7 yX7_sampled wsX7_sampled) := goodIn_app (goodIn_of _ (by decide +kernel)) ggX7_prioritySize_X7_sampled
theorem dX7_prioritySize_0 : decode cX7_prioritySize 0 = .ok (.aload_n 0, 1) := by decide +kernel
theorem dX7_prioritySize_1 : decode cX7_prioritySize 1 = .ok (.iload_n 1, 1) := by decide +kernel
theorem dX7_prioritySize_2 : decode cX7_prioritySize 2 = .ok (.iconst 2, 1) := by decide +kernel
theorem dX7_prioritySize_3 : decode cX7_prioritySize 3 = .ok (.invokevirtual 54, 3) := by decide +kernel
theorem dX7_prioritySize_6 : decode cX7_prioritySize 6 = .ok (.ifCond .eq 7, 3) := by decide +kernel
theorem dX7_prioritySize_9 : decode cX7_prioritySize 9 = .ok (.iconst 0, 1) := by decide +kernel
theorem dX7_prioritySize_10 : decode cX7_prioritySize 10 = .ok (.goto 8, 3) := by decide +kernel
theorem dX7_prioritySize_13 : decode cX7_prioritySize 13 = .ok (.aload_n 0, 1) := by decide +kernel
theorem dX7_prioritySize_14 : decode cX7_prioritySize 14 = .ok (.iload_n 1, 1) := by decide +kernel
theorem dX7_prioritySize_15 : decode cX7_prioritySize 15 = .ok (.invokevirtual 84, 3) := by decide +kernel
theorem dX7_prioritySize_18 : decode cX7_prioritySize 18 = .ok (.ireturn, 1) := by decide +kernel
set_option maxRecDepth 20000 in
theorem ggX7_noPlace_X7_in : GoodIn wsX7_noPlace wsX7_in := goodIn_r _ [4] (by decide +kernel) (by decide +kernel)
set_option maxRecDepth 20000 in
theorem gX7_noPlace_X7_in : GoodIn wsX7_noPlace (va_wsS RX7 45 yX7_in wsX7_in) := goodIn_app (goodIn_of _ (by decide +kernel)) ggX7_noPlace_X7_in
set_option maxRecDepth 20000 in
theorem ggX7_noPlace_X7_sampled : GoodIn wsX7_noPlace wsX7_sampled := goodIn_r _ [8, 9, 10, 11, 12, 3, 13, 14, 20, 21, 22, 23, 24, 25, 26, 27, 28, 29, 30, 31, 32] (by decide +kernel) (by decide +kernel)
end
section
set_option maxRecDepth 20000 in
theorem gX7_noPlace_X7_sampled : GoodIn wsX7_noPlace (wsV RX7 84 RX7 yX7_sampled wsX7_sampled) := goodIn_app (goodIn_of _ (by decide +kernel)) ggX7_noPlace_X7_sampled
set_option maxRecDepth 20000 in
theorem ggX7_noPlace_X7_refused : GoodIn wsX7_noPlace wsX7_refused := goodIn_r _ [18, 19, 20, 21, 22, 23, 24, 25, 26, 27, 28, 29, 30, 31, 32] (by decide +kernel) (by decide +kernel)
set_option maxRecDepth 20000 in
theorem gX7_noPlace_X7_refused : GoodIn wsX7_noPlace (wsV RX7 49 RX7 yX7_refused wsX7_refused) := goodIn_app (goodIn_of _ (by decide +kernel)) ggX7_noPlace_X7_refused
theorem dX7_noPlace_0 : decode cX7_noPlace 0 = .ok (.aload_n 0, 1) := by decide +kernel
theorem dX7_noPlace_1 : decode cX7_noPlace 1 = .ok (.iload_n 1, 1) := by decide +kernel
theorem dX7_noPlace_2 : decode cX7_noPlace 2 = .ok (.iconst 0, 1) := by decide +kernel
theorem dX7_noPlace_3 : decode cX7_noPlace 3 = .ok (.iconst 2, 1) := by decide +kernel
theorem dX7_noPlace_4 : decode cX7_noPlace 4 = .ok (.invokestatic 45, 3) := by decide +kernel
theorem dX7_noPlace_7 : decode cX7_noPlace 7 = .ok (.ifCond .ne 7, 3) := by decide +kernel
theorem dX7_noPlace_10 : decode cX7_noPlace 10 = .ok (.iconst 1, 1) := by decide +kernel
theorem dX7_noPlace_11 : decode cX7_noPlace 11 = .ok (.goto 23, 3) := by decide +kernel
theorem dX7_noPlace_14 : decode cX7_noPlace 14 = .ok (.iload_n 2, 1) := by decide +kernel
theorem dX7_noPlace_15 : decode cX7_noPlace 15 = .ok (.iconst 0, 1) := by decide +kernel
theorem dX7_noPlace_16 : decode cX7_noPlace 16 = .ok (.aload_n 0, 1) := by decide +kernel
theorem dX7_noPlace_17 : decode cX7_noPlace 17 = .ok (.iload_n 1, 1) := by decide +kernel
theorem dX7_noPlace_18 : decode cX7_noPlace 18 = .ok (.invokevirtual 84, 3) := by decide +kernel
theorem dX7_noPlace_21 : decode cX7_noPlace 21 = .ok (.iconst 1, 1) := by decide +kernel
theorem dX7_noPlace_22 : decode cX7_noPlace 22 = .ok (.isub, 1) := by decide +kernel
theorem dX7_noPlace_23 : decode cX7_noPlace 23 = .ok (.invokestatic 45, 3) := by decide +kernel
theorem dX7_noPlace_26 : decode cX7_noPlace 26 = .ok (.ifCond .eq 7, 3) := by decide +kernel
theorem dX7_noPlace_29 : decode cX7_noPlace 29 = .ok (.iconst 0, 1) := by decide +kernel
theorem dX7_noPlace_30 : decode cX7_noPlace 30 = .ok (.goto 4, 3) := by decide +kernel
theorem dX7_noPlace_33 : decode cX7_noPlace 33 = .ok (.iconst 2, 1) := by decide +kernel
theorem dX7_noPlace_34 : decode cX7_noPlace 34 = .ok (.invokevirtual 49, 3) := by decide +kernel
theorem dX7_noPlace_37 : decode cX7_noPlace 37 = .ok (.ireturn, 1) := by decide +kernel
set_option maxRecDepth 20000 in
theorem ggX7_priorityItem_X7_noPlace : GoodIn wsX7_priorityItem wsX7_noPlace := goodIn_r _ [6, 7, 8, 5, 9, 10, 11, 12, 13, 14, 15, 16, 17, 18, 19, 20, 21, 22, 23, 24, 39, 40, 41, 42, 43, 44, 45, 46, 47, 48, 49, 50, 51] (by decide +kernel) (by decide +kernel)
set_option maxRecDepth 20000 in
theorem gX7_priorityItem_X7_noPlace : GoodIn wsX7_priorityItem (wsV RX7 87 RX7 yX7_noPlace wsX7_noPlace) := goodIn_app (goodIn_of _ (by decide +kernel)) ggX7_priorityItem_X7_noPlace
set_option maxRecDepth 20000 in
theorem ggX7_priorityItem_X7_ranked : GoodIn wsX7_priorityItem wsX7_ranked := goodIn_r _ [28, 29, 30, 31, 5, 32, 19, 33, 34, 35, 36, 37, 38, 39, 40, 41, 42, 43, 44, 45, 46, 47, 48, 49, 50, 51] (by decide +kernel) (by decide +kernel)
set_option maxRecDepth 20000 in
theorem gX7_priorityItem_X7_ranked : GoodIn wsX7_priorityItem (wsV RX7 78 RX7 yX7_ranked wsX7_ranked) := goodIn_app (goodIn_of _ (by decide +kernel)) ggX7_priorityItem_X7_ranked
theorem dX7_priorityItem_0 : decode cX7_priorityItem 0 = .ok (.aload_n 0, 1) := by decide +kernel
theorem dX7_priorityItem_1 : decode cX7_priorityItem 1 = .ok (.iload_n 1, 1) := by decide +kernel
theorem dX7_priorityItem_2 : decode cX7_priorityItem 2 = .ok (.iload_n 2, 1) := by decide +kernel
theorem dX7_priorityItem_3 : decode cX7_priorityItem 3 = .ok (.invokevirtual 87, 3) := by decide +kernel
theorem dX7_priorityItem_6 : decode cX7_priorityItem 6 = .ok (.ifCond .eq 7, 3) := by decide +kernel
theorem dX7_priorityItem_9 : decode cX7_priorityItem 9 = .ok (.iconst 0, 1) := by decide +kernel
theorem dX7_priorityItem_10 : decode cX7_priorityItem 10 = .ok (.goto 14, 3) := by decide +kernel
theorem dX7_priorityItem_13 : decode cX7_priorityItem 13 = .ok (.aload_n 0, 1) := by decide +kernel
theorem dX7_priorityItem_14 : decode cX7_priorityItem 14 = .ok (.getfield 20, 3) := by decide +kernel
theorem dX7_priorityItem_17 : decode cX7_priorityItem 17 = .ok (.aload_n 0, 1) := by decide +kernel
theorem dX7_priorityItem_18 : decode cX7_priorityItem 18 = .ok (.iload_n 1, 1) := by decide +kernel
theorem dX7_priorityItem_19 : decode cX7_priorityItem 19 = .ok (.iload_n 2, 1) := by decide +kernel
theorem dX7_priorityItem_20 : decode cX7_priorityItem 20 = .ok (.invokevirtual 78, 3) := by decide +kernel
theorem dX7_priorityItem_23 : decode cX7_priorityItem 23 = .ok (.iaload, 1) := by decide +kernel
theorem dX7_priorityItem_24 : decode cX7_priorityItem 24 = .ok (.ireturn, 1) := by decide +kernel
set_option maxRecDepth 20000 in
theorem ggX7_estimatedWeight_X7_noPlace : GoodIn wsX7_estimatedWeight wsX7_noPlace := goodIn_r _ [6, 7, 8, 5, 9, 10, 11, 12, 13, 14, 15, 16, 17, 18, 19, 20, 21, 22, 23, 24, 43, 44, 45, 46, 47, 48, 49, 50, 51, 52, 53, 54, 55] (by decide +kernel) (by decide +kernel)
set_option maxRecDepth 20000 in
theorem gX7_estimatedWeight_X7_noPlace : GoodIn wsX7_estimatedWeight (wsV RX7 87 RX7 yX7_noPlace wsX7_noPlace) := goodIn_app (goodIn_of _ (by decide +kernel)) ggX7_estimatedWeight_X7_noPlace
set_option maxRecDepth 20000 in
theorem ggX7_estimatedWeight_X7_thresholdOf : GoodIn wsX7_estimatedWeight wsX7_thresholdOf := goodIn_r _ [28, 14, 1, 29, 30, 31, 32, 33, 5, 34, 35, 36, 37, 38, 19, 39, 40, 41, 42, 43, 44, 45, 46, 47, 48, 49, 50, 51, 52, 53, 54, 55] (by decide +kernel) (by decide +kernel)
set_option maxRecDepth 20000 in
theorem gX7_estimatedWeight_X7_thresholdOf : GoodIn wsX7_estimatedWeight (wsV RX7 90 RX7 yX7_thresholdOf wsX7_thresholdOf) := goodIn_app (goodIn_of _ (by decide +kernel)) ggX7_estimatedWeight_X7_thresholdOf
set_option maxRecDepth 20000 in
theorem ggX7_estimatedWeight_X7_ranked : GoodIn wsX7_estimatedWeight wsX7_ranked := goodIn_r _ [34, 35, 36, 37, 5, 38, 19, 39, 40, 41, 42, 1, 30, 43, 44, 45, 46, 47, 48, 49, 50, 51, 52, 53, 54, 55] (by decide +kernel) (by decide +kernel)
set_option maxRecDepth 20000 in
theorem gX7_estimatedWeight_X7_ranked : GoodIn wsX7_estimatedWeight (wsV RX7 78 RX7 yX7_ranked wsX7_ranked) := goodIn_app (goodIn_of _ (by decide +kernel)) ggX7_estimatedWeight_X7_ranked
theorem dX7_estimatedWeight_0 : decode cX7_estimatedWeight 0 = .ok (.aload_n 0, 1) := by decide +kernel
theorem dX7_estimatedWeight_1 : decode cX7_estimatedWeight 1 = .ok (.iload_n 1, 1) := by decide +kernel
theorem dX7_estimatedWeight_2 : decode cX7_estimatedWeight 2 = .ok (.iload_n 2, 1) := by decide +kernel
theorem dX7_estimatedWeight_3 : decode cX7_estimatedWeight 3 = .ok (.invokevirtual 87, 3) := by decide +kernel
theorem dX7_estimatedWeight_6 : decode cX7_estimatedWeight 6 = .ok (.ifCond .eq 5, 3) := by decide +kernel
theorem dX7_estimatedWeight_9 : decode cX7_estimatedWeight 9 = .ok (.lconst 0, 1) := by decide +kernel
theorem dX7_estimatedWeight_10 : decode cX7_estimatedWeight 10 = .ok (.lreturn, 1) := by decide +kernel
theorem dX7_estimatedWeight_11 : decode cX7_estimatedWeight 11 = .ok (.aload_n 0, 1) := by decide +kernel
theorem dX7_estimatedWeight_12 : decode cX7_estimatedWeight 12 = .ok (.iload_n 1, 1) := by decide +kernel
theorem dX7_estimatedWeight_13 : decode cX7_estimatedWeight 13 = .ok (.invokevirtual 90, 3) := by decide +kernel
theorem dX7_estimatedWeight_16 : decode cX7_estimatedWeight 16 = .ok (.lstore_n 3, 1) := by decide +kernel
theorem dX7_estimatedWeight_17 : decode cX7_estimatedWeight 17 = .ok (.aload_n 0, 1) := by decide +kernel
theorem dX7_estimatedWeight_18 : decode cX7_estimatedWeight 18 = .ok (.getfield 23, 3) := by decide +kernel
theorem dX7_estimatedWeight_21 : decode cX7_estimatedWeight 21 = .ok (.aload_n 0, 1) := by decide +kernel
theorem dX7_estimatedWeight_22 : decode cX7_estimatedWeight 22 = .ok (.iload_n 1, 1) := by decide +kernel
theorem dX7_estimatedWeight_23 : decode cX7_estimatedWeight 23 = .ok (.iload_n 2, 1) := by decide +kernel
theorem dX7_estimatedWeight_24 : decode cX7_estimatedWeight 24 = .ok (.invokevirtual 78, 3) := by decide +kernel
theorem dX7_estimatedWeight_27 : decode cX7_estimatedWeight 27 = .ok (.iaload, 1) := by decide +kernel
theorem dX7_estimatedWeight_28 : decode cX7_estimatedWeight 28 = .ok (.istore 5, 2) := by decide +kernel
theorem dX7_estimatedWeight_30 : decode cX7_estimatedWeight 30 = .ok (.iload 5, 2) := by decide +kernel
theorem dX7_estimatedWeight_32 : decode cX7_estimatedWeight 32 = .ok (.i2l, 1) := by decide +kernel
theorem dX7_estimatedWeight_33 : decode cX7_estimatedWeight 33 = .ok (.lload_n 3, 1) := by decide +kernel
theorem dX7_estimatedWeight_34 : decode cX7_estimatedWeight 34 = .ok (.lcmp, 1) := by decide +kernel
theorem dX7_estimatedWeight_35 : decode cX7_estimatedWeight 35 = .ok (.ifCond .le 9, 3) := by decide +kernel
theorem dX7_estimatedWeight_38 : decode cX7_estimatedWeight 38 = .ok (.iload 5, 2) := by decide +kernel
theorem dX7_estimatedWeight_40 : decode cX7_estimatedWeight 40 = .ok (.i2l, 1) := by decide +kernel
theorem dX7_estimatedWeight_41 : decode cX7_estimatedWeight 41 = .ok (.goto 4, 3) := by decide +kernel
theorem dX7_estimatedWeight_44 : decode cX7_estimatedWeight 44 = .ok (.lload_n 3, 1) := by decide +kernel
theorem dX7_estimatedWeight_45 : decode cX7_estimatedWeight 45 = .ok (.lreturn, 1) := by decide +kernel
set_option maxRecDepth 20000 in
theorem ggX7_threshold_X7_noStream : GoodIn wsX7_threshold wsX7_noStream := goodIn_r _ [5, 6, 7, 4, 8, 9, 10, 11, 12, 13, 35, 36, 37, 38, 39, 40, 41, 42, 43, 44, 45, 46, 47] (by decide +kernel) (by decide +kernel)
set_option maxRecDepth 20000 in
theorem gX7_threshold_X7_noStream : GoodIn wsX7_threshold (wsV RX7 54 RX7 yX7_noStream wsX7_noStream) := goodIn_app (goodIn_of _ (by decide +kernel)) ggX7_threshold_X7_noStream
set_option maxRecDepth 20000 in
theorem ggX7_threshold_X7_thresholdOf : GoodIn wsX7_threshold wsX7_thresholdOf := goodIn_r _ [17, 18, 19, 20, 21, 22, 23, 24, 4, 25, 26, 27, 28, 29, 30, 31, 32, 33, 34, 35, 36, 37, 38, 39, 40, 41, 42, 43, 44, 45, 46, 47] (by decide +kernel) (by decide +kernel)
set_option maxRecDepth 20000 in
theorem gX7_threshold_X7_thresholdOf : GoodIn wsX7_threshold (wsV RX7 90 RX7 yX7_thresholdOf wsX7_thresholdOf) := goodIn_app (goodIn_of _ (by decide +kernel)) ggX7_threshold_X7_thresholdOf
theorem dX7_threshold_0 : decode cX7_threshold 0 = .ok (.aload_n 0, 1) := by decide +kernel
theorem dX7_threshold_1 : decode cX7_threshold 1 = .ok (.iload_n 1, 1) := by decide +kernel
theorem dX7_threshold_2 : decode cX7_threshold 2 = .ok (.iconst 2, 1) := by decide +kernel
theorem dX7_threshold_3 : decode cX7_threshold 3 = .ok (.invokevirtual 54, 3) := by decide +kernel
theorem dX7_threshold_6 : decode cX7_threshold 6 = .ok (.ifCond .eq 7, 3) := by decide +kernel
theorem dX7_threshold_9 : decode cX7_threshold 9 = .ok (.lconst 0, 1) := by decide +kernel
theorem dX7_threshold_10 : decode cX7_threshold 10 = .ok (.goto 8, 3) := by decide +kernel
theorem dX7_threshold_13 : decode cX7_threshold 13 = .ok (.aload_n 0, 1) := by decide +kernel
theorem dX7_threshold_14 : decode cX7_threshold 14 = .ok (.iload_n 1, 1) := by decide +kernel
theorem dX7_threshold_15 : decode cX7_threshold 15 = .ok (.invokevirtual 90, 3) := by decide +kernel
theorem dX7_threshold_18 : decode cX7_threshold 18 = .ok (.lreturn, 1) := by decide +kernel
set_option maxRecDepth 20000 in
theorem ggX7_estimate_X7_noGroup : GoodIn wsX7_estimate wsX7_noGroup := goodIn_r _ [7, 8, 9, 6, 10, 11, 12, 13, 14, 15, 44, 45, 46, 47, 48, 49, 50, 51, 52, 53, 54, 55, 56] (by decide +kernel) (by decide +kernel)
set_option maxRecDepth 20000 in
theorem gX7_estimate_X7_noGroup : GoodIn wsX7_estimate (wsV RX7 58 RX7 yX7_noGroup wsX7_noGroup) := goodIn_app (goodIn_of _ (by decide +kernel)) ggX7_estimate_X7_noGroup
set_option maxRecDepth 20000 in
theorem ggX7_estimate_X7_thresholdOf : GoodIn wsX7_estimate wsX7_thresholdOf := goodIn_r _ [19, 20, 1, 21, 22, 23, 24, 25, 6, 26, 27, 28, 29, 30, 31, 32, 33, 34, 35, 44, 45, 46, 47, 48, 49, 50, 51, 52, 53, 54, 55, 56] (by decide +kernel) (by decide +kernel)
set_option maxRecDepth 20000 in
theorem gX7_estimate_X7_thresholdOf : GoodIn wsX7_estimate (wsV RX7 90 RX7 yX7_thresholdOf wsX7_thresholdOf) := goodIn_app (goodIn_of _ (by decide +kernel)) ggX7_estimate_X7_thresholdOf
set_option maxRecDepth 20000 in
theorem ggX7_estimate_X7_sampled : GoodIn wsX7_estimate wsX7_sampled := goodIn_r _ [39, 20, 40, 41, 42, 6, 43, 31, 44, 45, 46, 47, 48, 49, 50, 51, 52, 53, 54, 55, 56] (by decide +kernel) (by decide +kernel)
set_option maxRecDepth 20000 in
theorem gX7_estimate_X7_sampled : GoodIn wsX7_estimate (wsV RX7 84 RX7 yX7_sampled wsX7_sampled) := goodIn_app (goodIn_of _ (by decide +kernel)) ggX7_estimate_X7_sampled
set_option maxRecDepth 20000 in
theorem ggX7_estimate_X7_ranked : GoodIn wsX7_estimate wsX7_ranked := goodIn_r _ [26, 27, 28, 29, 6, 30, 31, 32, 33, 34, 35, 1, 22, 44, 45, 46, 47, 48, 49, 50, 51, 52, 53, 54, 55, 56] (by decide +kernel) (by decide +kernel)
set_option maxRecDepth 20000 in
theorem gX7_estimate_X7_ranked : GoodIn wsX7_estimate (wsV RX7 78 RX7 yX7_ranked wsX7_ranked) := goodIn_app (goodIn_of _ (by decide +kernel)) ggX7_estimate_X7_ranked
theorem dX7_estimate_0 : decode cX7_estimate 0 = .ok (.aload_n 0, 1) := by decide +kernel
theorem dX7_estimate_1 : decode cX7_estimate 1 = .ok (.iload_n 1, 1) := by decide +kernel
theorem dX7_estimate_2 : decode cX7_estimate 2 = .ok (.iconst 2, 1) := by decide +kernel
theorem dX7_estimate_3 : decode cX7_estimate 3 = .ok (.iload_n 2, 1) := by decide +kernel
theorem dX7_estimate_4 : decode cX7_estimate 4 = .ok (.invokevirtual 58, 3) := by decide +kernel
theorem dX7_estimate_7 : decode cX7_estimate 7 = .ok (.ifCond .eq 5, 3) := by decide +kernel
theorem dX7_estimate_10 : decode cX7_estimate 10 = .ok (.lconst 0, 1) := by decide +kernel
theorem dX7_estimate_11 : decode cX7_estimate 11 = .ok (.lreturn, 1) := by decide +kernel
theorem dX7_estimate_12 : decode cX7_estimate 12 = .ok (.aload_n 0, 1) := by decide +kernel
theorem dX7_estimate_13 : decode cX7_estimate 13 = .ok (.iload_n 1, 1) := by decide +kernel
theorem dX7_estimate_14 : decode cX7_estimate 14 = .ok (.invokevirtual 90, 3) := by decide +kernel
theorem dX7_estimate_17 : decode cX7_estimate 17 = .ok (.lstore_n 3, 1) := by decide +kernel
theorem dX7_estimate_18 : decode cX7_estimate 18 = .ok (.lconst 0, 1) := by decide +kernel
theorem dX7_estimate_19 : decode cX7_estimate 19 = .ok (.lstore 5, 2) := by decide +kernel
theorem dX7_estimate_21 : decode cX7_estimate 21 = .ok (.iconst 0, 1) := by decide +kernel
theorem dX7_estimate_22 : decode cX7_estimate 22 = .ok (.istore 7, 2) := by decide +kernel
theorem dX7_estimate_24 : decode cX7_estimate 24 = .ok (.iload 7, 2) := by decide +kernel
theorem dX7_estimate_26 : decode cX7_estimate 26 = .ok (.aload_n 0, 1) := by decide +kernel
theorem dX7_estimate_27 : decode cX7_estimate 27 = .ok (.iload_n 1, 1) := by decide +kernel
theorem dX7_estimate_28 : decode cX7_estimate 28 = .ok (.invokevirtual 84, 3) := by decide +kernel
theorem dX7_estimate_31 : decode cX7_estimate 31 = .ok (.if_icmp .ge 67, 3) := by decide +kernel
theorem dX7_estimate_34 : decode cX7_estimate 34 = .ok (.aload_n 0, 1) := by decide +kernel
theorem dX7_estimate_35 : decode cX7_estimate 35 = .ok (.iload_n 1, 1) := by decide +kernel
theorem dX7_estimate_36 : decode cX7_estimate 36 = .ok (.iload 7, 2) := by decide +kernel
theorem dX7_estimate_38 : decode cX7_estimate 38 = .ok (.invokevirtual 78, 3) := by decide +kernel
theorem dX7_estimate_41 : decode cX7_estimate 41 = .ok (.istore 8, 2) := by decide +kernel
theorem dX7_estimate_43 : decode cX7_estimate 43 = .ok (.aload_n 0, 1) := by decide +kernel
theorem dX7_estimate_44 : decode cX7_estimate 44 = .ok (.getfield 23, 3) := by decide +kernel
theorem dX7_estimate_47 : decode cX7_estimate 47 = .ok (.iload 8, 2) := by decide +kernel
theorem dX7_estimate_49 : decode cX7_estimate 49 = .ok (.iaload, 1) := by decide +kernel
theorem dX7_estimate_50 : decode cX7_estimate 50 = .ok (.i2l, 1) := by decide +kernel
theorem dX7_estimate_51 : decode cX7_estimate 51 = .ok (.lload_n 3, 1) := by decide +kernel
theorem dX7_estimate_52 : decode cX7_estimate 52 = .ok (.lcmp, 1) := by decide +kernel
theorem dX7_estimate_53 : decode cX7_estimate 53 = .ok (.ifCond .le 14, 3) := by decide +kernel
theorem dX7_estimate_56 : decode cX7_estimate 56 = .ok (.aload_n 0, 1) := by decide +kernel
theorem dX7_estimate_57 : decode cX7_estimate 57 = .ok (.getfield 23, 3) := by decide +kernel
theorem dX7_estimate_60 : decode cX7_estimate 60 = .ok (.iload 8, 2) := by decide +kernel
theorem dX7_estimate_62 : decode cX7_estimate 62 = .ok (.iaload, 1) := by decide +kernel
theorem dX7_estimate_63 : decode cX7_estimate 63 = .ok (.i2l, 1) := by decide +kernel
theorem dX7_estimate_64 : decode cX7_estimate 64 = .ok (.goto 4, 3) := by decide +kernel
theorem dX7_estimate_67 : decode cX7_estimate 67 = .ok (.lload_n 3, 1) := by decide +kernel
theorem dX7_estimate_68 : decode cX7_estimate 68 = .ok (.lstore 9, 2) := by decide +kernel
theorem dX7_estimate_70 : decode cX7_estimate 70 = .ok (.lload 5, 2) := by decide +kernel
theorem dX7_estimate_72 : decode cX7_estimate 72 = .ok (.aload_n 0, 1) := by decide +kernel
theorem dX7_estimate_73 : decode cX7_estimate 73 = .ok (.getfield 26, 3) := by decide +kernel
theorem dX7_estimate_76 : decode cX7_estimate 76 = .ok (.iload 8, 2) := by decide +kernel
theorem dX7_estimate_78 : decode cX7_estimate 78 = .ok (.iaload, 1) := by decide +kernel
theorem dX7_estimate_79 : decode cX7_estimate 79 = .ok (.iload_n 2, 1) := by decide +kernel
theorem dX7_estimate_80 : decode cX7_estimate 80 = .ok (.if_icmp .ne 8, 3) := by decide +kernel
theorem dX7_estimate_83 : decode cX7_estimate 83 = .ok (.lload 9, 2) := by decide +kernel
theorem dX7_estimate_85 : decode cX7_estimate 85 = .ok (.goto 4, 3) := by decide +kernel
theorem dX7_estimate_88 : decode cX7_estimate 88 = .ok (.lconst 0, 1) := by decide +kernel
theorem dX7_estimate_89 : decode cX7_estimate 89 = .ok (.ladd, 1) := by decide +kernel
theorem dX7_estimate_90 : decode cX7_estimate 90 = .ok (.lstore 5, 2) := by decide +kernel
theorem dX7_estimate_92 : decode cX7_estimate 92 = .ok (.iinc 7 1, 3) := by decide +kernel
theorem dX7_estimate_95 : decode cX7_estimate 95 = .ok (.goto (-71), 3) := by decide +kernel
theorem dX7_estimate_98 : decode cX7_estimate 98 = .ok (.lload 5, 2) := by decide +kernel
theorem dX7_estimate_100 : decode cX7_estimate 100 = .ok (.lreturn, 1) := by decide +kernel
set_option maxRecDepth 20000 in
theorem ggX7_sampledWeight_X7_noGroup : GoodIn wsX7_sampledWeight wsX7_noGroup := goodIn_r _ [7, 8, 9, 6, 10, 11, 12, 13, 14, 15, 39, 40, 41, 42, 43, 44, 45, 46, 47, 48, 49, 50, 51] (by decide +kernel) (by decide +kernel)
set_option maxRecDepth 20000 in
theorem gX7_sampledWeight_X7_noGroup : GoodIn wsX7_sampledWeight (wsV RX7 58 RX7 yX7_noGroup wsX7_noGroup) := goodIn_app (goodIn_of _ (by decide +kernel)) ggX7_sampledWeight_X7_noGroup
set_option maxRecDepth 20000 in
theorem ggX7_sampledWeight_X7_sampled : GoodIn wsX7_sampledWeight wsX7_sampled := goodIn_r _ [19, 20, 21, 22, 23, 6, 24, 25, 39, 40, 41, 42, 43, 44, 45, 46, 47, 48, 49, 50, 51] (by decide +kernel) (by decide +kernel)
set_option maxRecDepth 20000 in
theorem gX7_sampledWeight_X7_sampled : GoodIn wsX7_sampledWeight (wsV RX7 84 RX7 yX7_sampled wsX7_sampled) := goodIn_app (goodIn_of _ (by decide +kernel)) ggX7_sampledWeight_X7_sampled
set_option maxRecDepth 20000 in
theorem ggX7_sampledWeight_X7_ranked : GoodIn wsX7_sampledWeight wsX7_ranked := goodIn_r _ [29, 30, 31, 32, 6, 33, 25, 34, 35, 36, 37, 2, 38, 39, 40, 41, 42, 43, 44, 45, 46, 47, 48, 49, 50, 51] (by decide +kernel) (by decide +kernel)
set_option maxRecDepth 20000 in
theorem gX7_sampledWeight_X7_ranked : GoodIn wsX7_sampledWeight (wsV RX7 78 RX7 yX7_ranked wsX7_ranked) := goodIn_app (goodIn_of _ (by decide +kernel)) ggX7_sampledWeight_X7_ranked
theorem dX7_sampledWeight_0 : decode cX7_sampledWeight 0 = .ok (.aload_n 0, 1) := by decide +kernel
theorem dX7_sampledWeight_1 : decode cX7_sampledWeight 1 = .ok (.iload_n 1, 1) := by decide +kernel
theorem dX7_sampledWeight_2 : decode cX7_sampledWeight 2 = .ok (.iconst 2, 1) := by decide +kernel
theorem dX7_sampledWeight_3 : decode cX7_sampledWeight 3 = .ok (.iload_n 2, 1) := by decide +kernel
theorem dX7_sampledWeight_4 : decode cX7_sampledWeight 4 = .ok (.invokevirtual 58, 3) := by decide +kernel
theorem dX7_sampledWeight_7 : decode cX7_sampledWeight 7 = .ok (.ifCond .eq 5, 3) := by decide +kernel
theorem dX7_sampledWeight_10 : decode cX7_sampledWeight 10 = .ok (.iconst 0, 1) := by decide +kernel
theorem dX7_sampledWeight_11 : decode cX7_sampledWeight 11 = .ok (.ireturn, 1) := by decide +kernel
theorem dX7_sampledWeight_12 : decode cX7_sampledWeight 12 = .ok (.iconst 0, 1) := by decide +kernel
theorem dX7_sampledWeight_13 : decode cX7_sampledWeight 13 = .ok (.istore_n 3, 1) := by decide +kernel
theorem dX7_sampledWeight_14 : decode cX7_sampledWeight 14 = .ok (.iconst 0, 1) := by decide +kernel
theorem dX7_sampledWeight_15 : decode cX7_sampledWeight 15 = .ok (.istore 4, 2) := by decide +kernel
theorem dX7_sampledWeight_17 : decode cX7_sampledWeight 17 = .ok (.iload 4, 2) := by decide +kernel
theorem dX7_sampledWeight_19 : decode cX7_sampledWeight 19 = .ok (.aload_n 0, 1) := by decide +kernel
theorem dX7_sampledWeight_20 : decode cX7_sampledWeight 20 = .ok (.iload_n 1, 1) := by decide +kernel
theorem dX7_sampledWeight_21 : decode cX7_sampledWeight 21 = .ok (.invokevirtual 84, 3) := by decide +kernel
theorem dX7_sampledWeight_24 : decode cX7_sampledWeight 24 = .ok (.if_icmp .ge 43, 3) := by decide +kernel
theorem dX7_sampledWeight_27 : decode cX7_sampledWeight 27 = .ok (.aload_n 0, 1) := by decide +kernel
theorem dX7_sampledWeight_28 : decode cX7_sampledWeight 28 = .ok (.iload_n 1, 1) := by decide +kernel
theorem dX7_sampledWeight_29 : decode cX7_sampledWeight 29 = .ok (.iload 4, 2) := by decide +kernel
theorem dX7_sampledWeight_31 : decode cX7_sampledWeight 31 = .ok (.invokevirtual 78, 3) := by decide +kernel
theorem dX7_sampledWeight_34 : decode cX7_sampledWeight 34 = .ok (.istore 5, 2) := by decide +kernel
theorem dX7_sampledWeight_36 : decode cX7_sampledWeight 36 = .ok (.iload_n 3, 1) := by decide +kernel
theorem dX7_sampledWeight_37 : decode cX7_sampledWeight 37 = .ok (.aload_n 0, 1) := by decide +kernel
theorem dX7_sampledWeight_38 : decode cX7_sampledWeight 38 = .ok (.getfield 26, 3) := by decide +kernel
theorem dX7_sampledWeight_41 : decode cX7_sampledWeight 41 = .ok (.iload 5, 2) := by decide +kernel
theorem dX7_sampledWeight_43 : decode cX7_sampledWeight 43 = .ok (.iaload, 1) := by decide +kernel
theorem dX7_sampledWeight_44 : decode cX7_sampledWeight 44 = .ok (.iload_n 2, 1) := by decide +kernel
theorem dX7_sampledWeight_45 : decode cX7_sampledWeight 45 = .ok (.if_icmp .ne 13, 3) := by decide +kernel
theorem dX7_sampledWeight_48 : decode cX7_sampledWeight 48 = .ok (.aload_n 0, 1) := by decide +kernel
theorem dX7_sampledWeight_49 : decode cX7_sampledWeight 49 = .ok (.getfield 23, 3) := by decide +kernel
theorem dX7_sampledWeight_52 : decode cX7_sampledWeight 52 = .ok (.iload 5, 2) := by decide +kernel
theorem dX7_sampledWeight_54 : decode cX7_sampledWeight 54 = .ok (.iaload, 1) := by decide +kernel
theorem dX7_sampledWeight_55 : decode cX7_sampledWeight 55 = .ok (.goto 4, 3) := by decide +kernel
theorem dX7_sampledWeight_58 : decode cX7_sampledWeight 58 = .ok (.iconst 0, 1) := by decide +kernel
theorem dX7_sampledWeight_59 : decode cX7_sampledWeight 59 = .ok (.iadd, 1) := by decide +kernel
theorem dX7_sampledWeight_60 : decode cX7_sampledWeight 60 = .ok (.istore_n 3, 1) := by decide +kernel
theorem dX7_sampledWeight_61 : decode cX7_sampledWeight 61 = .ok (.iinc 4 1, 3) := by decide +kernel
theorem dX7_sampledWeight_64 : decode cX7_sampledWeight 64 = .ok (.goto (-47), 3) := by decide +kernel
theorem dX7_sampledWeight_67 : decode cX7_sampledWeight 67 = .ok (.iload_n 3, 1) := by decide +kernel
theorem dX7_sampledWeight_68 : decode cX7_sampledWeight 68 = .ok (.ireturn, 1) := by decide +kernel
theorem dX7_hash_0 : decode cX7_hash 0 = .ok (.iload_n 0, 1) := by decide +kernel
theorem dX7_hash_1 : decode cX7_hash 1 = .ok (.i2l, 1) := by decide +kernel
theorem dX7_hash_2 : decode cX7_hash 2 = .ok (.ldc2_w 94, 3) := by decide +kernel
theorem dX7_hash_5 : decode cX7_hash 5 = .ok (.lmul, 1) := by decide +kernel
theorem dX7_hash_6 : decode cX7_hash 6 = .ok (.ldc2_w 96, 3) := by decide +kernel
theorem dX7_hash_9 : decode cX7_hash 9 = .ok (.lrem, 1) := by decide +kernel
theorem dX7_hash_10 : decode cX7_hash 10 = .ok (.lconst 1, 1) := by decide +kernel
theorem dX7_hash_11 : decode cX7_hash 11 = .ok (.ladd, 1) := by decide +kernel
theorem dX7_hash_12 : decode cX7_hash 12 = .ok (.lreturn, 1) := by decide +kernel
set_option maxRecDepth 20000 in
theorem ggX7_distinct_X7_isOf : GoodIn wsX7_distinct wsX7_isOf := goodIn_r _ [7, 8, 9, 10, 11, 12, 13, 14, 15, 16, 17, 18, 19, 20, 21] (by decide +kernel) (by decide +kernel)
set_option maxRecDepth 20000 in
theorem gX7_distinct_X7_isOf : GoodIn wsX7_distinct (wsV RX7 61 RX7 yX7_isOf wsX7_isOf) := goodIn_app (goodIn_of _ (by decide +kernel)) ggX7_distinct_X7_isOf
theorem dX7_distinct_0 : decode cX7_distinct 0 = .ok (.iconst 0, 1) := by decide +kernel
theorem dX7_distinct_1 : decode cX7_distinct 1 = .ok (.istore_n 2, 1) := by decide +kernel
theorem dX7_distinct_2 : decode cX7_distinct 2 = .ok (.iconst 0, 1) := by decide +kernel
theorem dX7_distinct_3 : decode cX7_distinct 3 = .ok (.istore_n 3, 1) := by decide +kernel
theorem dX7_distinct_4 : decode cX7_distinct 4 = .ok (.iload_n 3, 1) := by decide +kernel
theorem dX7_distinct_5 : decode cX7_distinct 5 = .ok (.sipush 600, 3) := by decide +kernel
theorem dX7_distinct_8 : decode cX7_distinct 8 = .ok (.if_icmp .ge 99, 3) := by decide +kernel
theorem dX7_distinct_11 : decode cX7_distinct 11 = .ok (.aload_n 0, 1) := by decide +kernel
theorem dX7_distinct_12 : decode cX7_distinct 12 = .ok (.getfield 35, 3) := by decide +kernel
theorem dX7_distinct_15 : decode cX7_distinct 15 = .ok (.iload_n 3, 1) := by decide +kernel
theorem dX7_distinct_16 : decode cX7_distinct 16 = .ok (.aload_n 0, 1) := by decide +kernel
theorem dX7_distinct_17 : decode cX7_distinct 17 = .ok (.iload_n 1, 1) := by decide +kernel
theorem dX7_distinct_18 : decode cX7_distinct 18 = .ok (.iload_n 3, 1) := by decide +kernel
theorem dX7_distinct_19 : decode cX7_distinct 19 = .ok (.invokevirtual 61, 3) := by decide +kernel
theorem dX7_distinct_22 : decode cX7_distinct 22 = .ok (.bastore, 1) := by decide +kernel
theorem dX7_distinct_23 : decode cX7_distinct 23 = .ok (.iconst 0, 1) := by decide +kernel
theorem dX7_distinct_24 : decode cX7_distinct 24 = .ok (.istore 4, 2) := by decide +kernel
theorem dX7_distinct_26 : decode cX7_distinct 26 = .ok (.iload 4, 2) := by decide +kernel
theorem dX7_distinct_28 : decode cX7_distinct 28 = .ok (.iload_n 3, 1) := by decide +kernel
theorem dX7_distinct_29 : decode cX7_distinct 29 = .ok (.if_icmp .ge 55, 3) := by decide +kernel
theorem dX7_distinct_32 : decode cX7_distinct 32 = .ok (.aload_n 0, 1) := by decide +kernel
theorem dX7_distinct_33 : decode cX7_distinct 33 = .ok (.getfield 35, 3) := by decide +kernel
theorem dX7_distinct_36 : decode cX7_distinct 36 = .ok (.iload_n 3, 1) := by decide +kernel
theorem dX7_distinct_37 : decode cX7_distinct 37 = .ok (.baload, 1) := by decide +kernel
theorem dX7_distinct_38 : decode cX7_distinct 38 = .ok (.ifCond .eq 46, 3) := by decide +kernel
theorem dX7_distinct_41 : decode cX7_distinct 41 = .ok (.aload_n 0, 1) := by decide +kernel
theorem dX7_distinct_42 : decode cX7_distinct 42 = .ok (.getfield 35, 3) := by decide +kernel
theorem dX7_distinct_45 : decode cX7_distinct 45 = .ok (.iload_n 3, 1) := by decide +kernel
theorem dX7_distinct_46 : decode cX7_distinct 46 = .ok (.aload_n 0, 1) := by decide +kernel
theorem dX7_distinct_47 : decode cX7_distinct 47 = .ok (.iload_n 1, 1) := by decide +kernel
theorem dX7_distinct_48 : decode cX7_distinct 48 = .ok (.iload 4, 2) := by decide +kernel
theorem dX7_distinct_50 : decode cX7_distinct 50 = .ok (.invokevirtual 61, 3) := by decide +kernel
theorem dX7_distinct_53 : decode cX7_distinct 53 = .ok (.ifCond .eq 19, 3) := by decide +kernel
theorem dX7_distinct_56 : decode cX7_distinct 56 = .ok (.aload_n 0, 1) := by decide +kernel
theorem dX7_distinct_57 : decode cX7_distinct 57 = .ok (.getfield 20, 3) := by decide +kernel
theorem dX7_distinct_60 : decode cX7_distinct 60 = .ok (.iload 4, 2) := by decide +kernel
theorem dX7_distinct_62 : decode cX7_distinct 62 = .ok (.iaload, 1) := by decide +kernel
theorem dX7_distinct_63 : decode cX7_distinct 63 = .ok (.aload_n 0, 1) := by decide +kernel
theorem dX7_distinct_64 : decode cX7_distinct 64 = .ok (.getfield 20, 3) := by decide +kernel
theorem dX7_distinct_67 : decode cX7_distinct 67 = .ok (.iload_n 3, 1) := by decide +kernel
theorem dX7_distinct_68 : decode cX7_distinct 68 = .ok (.iaload, 1) := by decide +kernel
theorem dX7_distinct_69 : decode cX7_distinct 69 = .ok (.if_icmp .eq 7, 3) := by decide +kernel
theorem dX7_distinct_72 : decode cX7_distinct 72 = .ok (.iconst 1, 1) := by decide +kernel
theorem dX7_distinct_73 : decode cX7_distinct 73 = .ok (.goto 4, 3) := by decide +kernel
theorem dX7_distinct_76 : decode cX7_distinct 76 = .ok (.iconst 0, 1) := by decide +kernel
theorem dX7_distinct_77 : decode cX7_distinct 77 = .ok (.bastore, 1) := by decide +kernel
theorem dX7_distinct_78 : decode cX7_distinct 78 = .ok (.iinc 4 1, 3) := by decide +kernel
theorem dX7_distinct_81 : decode cX7_distinct 81 = .ok (.goto (-55), 3) := by decide +kernel
theorem dX7_distinct_84 : decode cX7_distinct 84 = .ok (.iload_n 2, 1) := by decide +kernel
theorem dX7_distinct_85 : decode cX7_distinct 85 = .ok (.aload_n 0, 1) := by decide +kernel
theorem dX7_distinct_86 : decode cX7_distinct 86 = .ok (.getfield 35, 3) := by decide +kernel
theorem dX7_distinct_89 : decode cX7_distinct 89 = .ok (.iload_n 3, 1) := by decide +kernel
theorem dX7_distinct_90 : decode cX7_distinct 90 = .ok (.baload, 1) := by decide +kernel
theorem dX7_distinct_91 : decode cX7_distinct 91 = .ok (.ifCond .eq 7, 3) := by decide +kernel
theorem dX7_distinct_94 : decode cX7_distinct 94 = .ok (.iconst 1, 1) := by decide +kernel
theorem dX7_distinct_95 : decode cX7_distinct 95 = .ok (.goto 4, 3) := by decide +kernel
theorem dX7_distinct_98 : decode cX7_distinct 98 = .ok (.iconst 0, 1) := by decide +kernel
theorem dX7_distinct_99 : decode cX7_distinct 99 = .ok (.iadd, 1) := by decide +kernel
theorem dX7_distinct_100 : decode cX7_distinct 100 = .ok (.istore_n 2, 1) := by decide +kernel
theorem dX7_distinct_101 : decode cX7_distinct 101 = .ok (.iinc 3 1, 3) := by decide +kernel
theorem dX7_distinct_104 : decode cX7_distinct 104 = .ok (.goto (-100), 3) := by decide +kernel
theorem dX7_distinct_107 : decode cX7_distinct 107 = .ok (.iload_n 2, 1) := by decide +kernel
theorem dX7_distinct_108 : decode cX7_distinct 108 = .ok (.ireturn, 1) := by decide +kernel
set_option maxRecDepth 20000 in
theorem ggX7_distinctIn_X7_distinct : GoodIn wsX7_distinctIn wsX7_distinct := goodIn_r _ [6, 7, 8, 9, 10, 11, 5, 12, 13, 14, 15, 16, 17, 18, 19, 20, 21, 22, 23, 24, 25, 26] (by decide +kernel) (by decide +kernel)
set_option maxRecDepth 20000 in
theorem gX7_distinctIn_X7_distinct : GoodIn wsX7_distinctIn (wsV RX7 98 RX7 yX7_distinct wsX7_distinct) := goodIn_app (goodIn_of _ (by decide +kernel)) ggX7_distinctIn_X7_distinct
theorem dX7_distinctIn_0 : decode cX7_distinctIn 0 = .ok (.aload_n 0, 1) := by decide +kernel
theorem dX7_distinctIn_1 : decode cX7_distinctIn 1 = .ok (.iload_n 1, 1) := by decide +kernel
theorem dX7_distinctIn_2 : decode cX7_distinctIn 2 = .ok (.invokevirtual 98, 3) := by decide +kernel
theorem dX7_distinctIn_5 : decode cX7_distinctIn 5 = .ok (.istore_n 2, 1) := by decide +kernel
theorem dX7_distinctIn_6 : decode cX7_distinctIn 6 = .ok (.iload_n 2, 1) := by decide +kernel
theorem dX7_distinctIn_7 : decode cX7_distinctIn 7 = .ok (.aload_n 0, 1) := by decide +kernel
theorem dX7_distinctIn_8 : decode cX7_distinctIn 8 = .ok (.getfield 7, 3) := by decide +kernel
theorem dX7_distinctIn_11 : decode cX7_distinctIn 11 = .ok (.if_icmp .ge 7, 3) := by decide +kernel
theorem dX7_distinctIn_14 : decode cX7_distinctIn 14 = .ok (.iload_n 2, 1) := by decide +kernel
theorem dX7_distinctIn_15 : decode cX7_distinctIn 15 = .ok (.goto 7, 3) := by decide +kernel
theorem dX7_distinctIn_18 : decode cX7_distinctIn 18 = .ok (.aload_n 0, 1) := by decide +kernel
theorem dX7_distinctIn_19 : decode cX7_distinctIn 19 = .ok (.getfield 7, 3) := by decide +kernel
theorem dX7_distinctIn_22 : decode cX7_distinctIn 22 = .ok (.ireturn, 1) := by decide +kernel
set_option maxRecDepth 20000 in
theorem ggX7_hashed_X7_hash : GoodIn wsX7_hashed wsX7_hash := goodIn_r _ [6, 7, 8] (by decide +kernel) (by decide +kernel)
set_option maxRecDepth 20000 in
theorem gX7_hashed_X7_hash : GoodIn wsX7_hashed (va_wsS RX7 101 yX7_hash wsX7_hash) := goodIn_app (goodIn_of _ (by decide +kernel)) ggX7_hashed_X7_hash
theorem dX7_hashed_0 : decode cX7_hashed 0 = .ok (.iconst (-1), 1) := by decide +kernel
theorem dX7_hashed_1 : decode cX7_hashed 1 = .ok (.istore_n 2, 1) := by decide +kernel
theorem dX7_hashed_2 : decode cX7_hashed 2 = .ok (.iconst 0, 1) := by decide +kernel
theorem dX7_hashed_3 : decode cX7_hashed 3 = .ok (.istore_n 3, 1) := by decide +kernel
theorem dX7_hashed_4 : decode cX7_hashed 4 = .ok (.iload_n 3, 1) := by decide +kernel
theorem dX7_hashed_5 : decode cX7_hashed 5 = .ok (.sipush 600, 3) := by decide +kernel
theorem dX7_hashed_8 : decode cX7_hashed 8 = .ok (.if_icmp .ge 93, 3) := by decide +kernel
theorem dX7_hashed_11 : decode cX7_hashed 11 = .ok (.aload_n 0, 1) := by decide +kernel
theorem dX7_hashed_12 : decode cX7_hashed 12 = .ok (.getfield 35, 3) := by decide +kernel
theorem dX7_hashed_15 : decode cX7_hashed 15 = .ok (.iload_n 3, 1) := by decide +kernel
theorem dX7_hashed_16 : decode cX7_hashed 16 = .ok (.baload, 1) := by decide +kernel
theorem dX7_hashed_17 : decode cX7_hashed 17 = .ok (.ifCond .eq 78, 3) := by decide +kernel
theorem dX7_hashed_20 : decode cX7_hashed 20 = .ok (.iconst 0, 1) := by decide +kernel
theorem dX7_hashed_21 : decode cX7_hashed 21 = .ok (.istore 4, 2) := by decide +kernel
theorem dX7_hashed_23 : decode cX7_hashed 23 = .ok (.iconst 0, 1) := by decide +kernel
end
section
theorem dX7_hashed_24 : decode cX7_hashed 24 = .ok (.istore 5, 2) := by decide +kernel
theorem dX7_hashed_26 : decode cX7_hashed 26 = .ok (.iload 5, 2) := by decide +kernel
theorem dX7_hashed_28 : decode cX7_hashed 28 = .ok (.sipush 600, 3) := by decide +kernel
theorem dX7_hashed_31 : decode cX7_hashed 31 = .ok (.if_icmp .ge 52, 3) := by decide +kernel
theorem dX7_hashed_34 : decode cX7_hashed 34 = .ok (.iload 4, 2) := by decide +kernel
theorem dX7_hashed_36 : decode cX7_hashed 36 = .ok (.aload_n 0, 1) := by decide +kernel
theorem dX7_hashed_37 : decode cX7_hashed 37 = .ok (.getfield 35, 3) := by decide +kernel
theorem dX7_hashed_40 : decode cX7_hashed 40 = .ok (.iload 5, 2) := by decide +kernel
theorem dX7_hashed_42 : decode cX7_hashed 42 = .ok (.baload, 1) := by decide +kernel
theorem dX7_hashed_43 : decode cX7_hashed 43 = .ok (.ifCond .eq 30, 3) := by decide +kernel
theorem dX7_hashed_46 : decode cX7_hashed 46 = .ok (.aload_n 0, 1) := by decide +kernel
theorem dX7_hashed_47 : decode cX7_hashed 47 = .ok (.getfield 20, 3) := by decide +kernel
theorem dX7_hashed_50 : decode cX7_hashed 50 = .ok (.iload 5, 2) := by decide +kernel
theorem dX7_hashed_52 : decode cX7_hashed 52 = .ok (.iaload, 1) := by decide +kernel
theorem dX7_hashed_53 : decode cX7_hashed 53 = .ok (.invokestatic 101, 3) := by decide +kernel
theorem dX7_hashed_56 : decode cX7_hashed 56 = .ok (.aload_n 0, 1) := by decide +kernel
theorem dX7_hashed_57 : decode cX7_hashed 57 = .ok (.getfield 20, 3) := by decide +kernel
theorem dX7_hashed_60 : decode cX7_hashed 60 = .ok (.iload_n 3, 1) := by decide +kernel
theorem dX7_hashed_61 : decode cX7_hashed 61 = .ok (.iaload, 1) := by decide +kernel
theorem dX7_hashed_62 : decode cX7_hashed 62 = .ok (.invokestatic 101, 3) := by decide +kernel
theorem dX7_hashed_65 : decode cX7_hashed 65 = .ok (.lcmp, 1) := by decide +kernel
theorem dX7_hashed_66 : decode cX7_hashed 66 = .ok (.ifCond .ge 7, 3) := by decide +kernel
theorem dX7_hashed_69 : decode cX7_hashed 69 = .ok (.iconst 1, 1) := by decide +kernel
theorem dX7_hashed_70 : decode cX7_hashed 70 = .ok (.goto 4, 3) := by decide +kernel
theorem dX7_hashed_73 : decode cX7_hashed 73 = .ok (.iconst 0, 1) := by decide +kernel
theorem dX7_hashed_74 : decode cX7_hashed 74 = .ok (.iadd, 1) := by decide +kernel
theorem dX7_hashed_75 : decode cX7_hashed 75 = .ok (.istore 4, 2) := by decide +kernel
theorem dX7_hashed_77 : decode cX7_hashed 77 = .ok (.iinc 5 1, 3) := by decide +kernel
theorem dX7_hashed_80 : decode cX7_hashed 80 = .ok (.goto (-54), 3) := by decide +kernel
theorem dX7_hashed_83 : decode cX7_hashed 83 = .ok (.iload 4, 2) := by decide +kernel
theorem dX7_hashed_85 : decode cX7_hashed 85 = .ok (.iload_n 1, 1) := by decide +kernel
theorem dX7_hashed_86 : decode cX7_hashed 86 = .ok (.if_icmp .ne 7, 3) := by decide +kernel
theorem dX7_hashed_89 : decode cX7_hashed 89 = .ok (.iload_n 3, 1) := by decide +kernel
theorem dX7_hashed_90 : decode cX7_hashed 90 = .ok (.goto 4, 3) := by decide +kernel
theorem dX7_hashed_93 : decode cX7_hashed 93 = .ok (.iload_n 2, 1) := by decide +kernel
theorem dX7_hashed_94 : decode cX7_hashed 94 = .ok (.istore_n 2, 1) := by decide +kernel
theorem dX7_hashed_95 : decode cX7_hashed 95 = .ok (.iinc 3 1, 3) := by decide +kernel
theorem dX7_hashed_98 : decode cX7_hashed 98 = .ok (.goto (-94), 3) := by decide +kernel
theorem dX7_hashed_101 : decode cX7_hashed 101 = .ok (.iload_n 2, 1) := by decide +kernel
theorem dX7_hashed_102 : decode cX7_hashed 102 = .ok (.ireturn, 1) := by decide +kernel
set_option maxRecDepth 20000 in
theorem ggX7_distinctSize_X7_noStream : GoodIn wsX7_distinctSize wsX7_noStream := goodIn_r _ [5, 6, 7, 4, 8, 9, 10, 11, 12, 13, 30, 31, 32, 33, 34, 35, 36, 37, 38, 39, 40, 41, 42] (by decide +kernel) (by decide +kernel)
set_option maxRecDepth 20000 in
theorem gX7_distinctSize_X7_noStream : GoodIn wsX7_distinctSize (wsV RX7 54 RX7 yX7_noStream wsX7_noStream) := goodIn_app (goodIn_of _ (by decide +kernel)) ggX7_distinctSize_X7_noStream
set_option maxRecDepth 20000 in
theorem ggX7_distinctSize_X7_distinctIn : GoodIn wsX7_distinctSize wsX7_distinctIn := goodIn_r _ [17, 18, 19, 20, 21, 4, 22, 23, 24, 25, 26, 27, 28, 29, 30, 31, 32, 33, 34, 35, 36, 37, 38, 39, 40, 41, 42] (by decide +kernel) (by decide +kernel)
set_option maxRecDepth 20000 in
theorem gX7_distinctSize_X7_distinctIn : GoodIn wsX7_distinctSize (wsV RX7 104 RX7 yX7_distinctIn wsX7_distinctIn) := goodIn_app (goodIn_of _ (by decide +kernel)) ggX7_distinctSize_X7_distinctIn
theorem dX7_distinctSize_0 : decode cX7_distinctSize 0 = .ok (.aload_n 0, 1) := by decide +kernel
theorem dX7_distinctSize_1 : decode cX7_distinctSize 1 = .ok (.iload_n 1, 1) := by decide +kernel
theorem dX7_distinctSize_2 : decode cX7_distinctSize 2 = .ok (.iconst 2, 1) := by decide +kernel
theorem dX7_distinctSize_3 : decode cX7_distinctSize 3 = .ok (.invokevirtual 54, 3) := by decide +kernel
theorem dX7_distinctSize_6 : decode cX7_distinctSize 6 = .ok (.ifCond .eq 7, 3) := by decide +kernel
theorem dX7_distinctSize_9 : decode cX7_distinctSize 9 = .ok (.iconst 0, 1) := by decide +kernel
theorem dX7_distinctSize_10 : decode cX7_distinctSize 10 = .ok (.goto 8, 3) := by decide +kernel
theorem dX7_distinctSize_13 : decode cX7_distinctSize 13 = .ok (.aload_n 0, 1) := by decide +kernel
theorem dX7_distinctSize_14 : decode cX7_distinctSize 14 = .ok (.iload_n 1, 1) := by decide +kernel
theorem dX7_distinctSize_15 : decode cX7_distinctSize 15 = .ok (.invokevirtual 104, 3) := by decide +kernel
theorem dX7_distinctSize_18 : decode cX7_distinctSize 18 = .ok (.ireturn, 1) := by decide +kernel
set_option maxRecDepth 20000 in
theorem ggX7_distinctAt_X7_in : GoodIn wsX7_distinctAt wsX7_in := goodIn_r _ [4] (by decide +kernel) (by decide +kernel)
set_option maxRecDepth 20000 in
theorem gX7_distinctAt_X7_in : GoodIn wsX7_distinctAt (va_wsS RX7 45 yX7_in wsX7_in) := goodIn_app (goodIn_of _ (by decide +kernel)) ggX7_distinctAt_X7_in
set_option maxRecDepth 20000 in
theorem ggX7_distinctAt_X7_distinctIn : GoodIn wsX7_distinctAt wsX7_distinctIn := goodIn_r _ [8, 9, 10, 11, 12, 3, 13, 14, 15, 16, 17, 18, 19, 20, 35, 36, 37, 38, 39, 40, 41, 42, 43, 44, 45, 46, 47] (by decide +kernel) (by decide +kernel)
set_option maxRecDepth 20000 in
theorem gX7_distinctAt_X7_distinctIn : GoodIn wsX7_distinctAt (wsV RX7 104 RX7 yX7_distinctIn wsX7_distinctIn) := goodIn_app (goodIn_of _ (by decide +kernel)) ggX7_distinctAt_X7_distinctIn
set_option maxRecDepth 20000 in
theorem ggX7_distinctAt_X7_refused : GoodIn wsX7_distinctAt wsX7_refused := goodIn_r _ [24, 25, 35, 36, 37, 38, 39, 40, 41, 42, 43, 44, 45, 46, 47] (by decide +kernel) (by decide +kernel)
set_option maxRecDepth 20000 in
theorem gX7_distinctAt_X7_refused : GoodIn wsX7_distinctAt (wsV RX7 49 RX7 yX7_refused wsX7_refused) := goodIn_app (goodIn_of _ (by decide +kernel)) ggX7_distinctAt_X7_refused
set_option maxRecDepth 20000 in
theorem ggX7_distinctAt_X7_hashed : GoodIn wsX7_distinctAt wsX7_hashed := goodIn_r _ [29, 14, 15, 30, 31, 3, 32, 33, 34, 35, 36, 37, 38, 39, 40, 41, 42, 43, 44, 45, 46, 47] (by decide +kernel) (by decide +kernel)
set_option maxRecDepth 20000 in
theorem gX7_distinctAt_X7_hashed : GoodIn wsX7_distinctAt (wsV RX7 107 RX7 yX7_hashed wsX7_hashed) := goodIn_app (goodIn_of _ (by decide +kernel)) ggX7_distinctAt_X7_hashed
theorem dX7_distinctAt_0 : decode cX7_distinctAt 0 = .ok (.iload_n 1, 1) := by decide +kernel
theorem dX7_distinctAt_1 : decode cX7_distinctAt 1 = .ok (.iconst 0, 1) := by decide +kernel
theorem dX7_distinctAt_2 : decode cX7_distinctAt 2 = .ok (.iconst 2, 1) := by decide +kernel
theorem dX7_distinctAt_3 : decode cX7_distinctAt 3 = .ok (.invokestatic 45, 3) := by decide +kernel
theorem dX7_distinctAt_6 : decode cX7_distinctAt 6 = .ok (.istore_n 3, 1) := by decide +kernel
theorem dX7_distinctAt_7 : decode cX7_distinctAt 7 = .ok (.iload_n 3, 1) := by decide +kernel
theorem dX7_distinctAt_8 : decode cX7_distinctAt 8 = .ok (.ifCond .eq 22, 3) := by decide +kernel
theorem dX7_distinctAt_11 : decode cX7_distinctAt 11 = .ok (.iload_n 2, 1) := by decide +kernel
theorem dX7_distinctAt_12 : decode cX7_distinctAt 12 = .ok (.iconst 0, 1) := by decide +kernel
theorem dX7_distinctAt_13 : decode cX7_distinctAt 13 = .ok (.aload_n 0, 1) := by decide +kernel
theorem dX7_distinctAt_14 : decode cX7_distinctAt 14 = .ok (.iload_n 1, 1) := by decide +kernel
theorem dX7_distinctAt_15 : decode cX7_distinctAt 15 = .ok (.invokevirtual 104, 3) := by decide +kernel
theorem dX7_distinctAt_18 : decode cX7_distinctAt 18 = .ok (.iconst 1, 1) := by decide +kernel
theorem dX7_distinctAt_19 : decode cX7_distinctAt 19 = .ok (.isub, 1) := by decide +kernel
theorem dX7_distinctAt_20 : decode cX7_distinctAt 20 = .ok (.invokestatic 45, 3) := by decide +kernel
theorem dX7_distinctAt_23 : decode cX7_distinctAt 23 = .ok (.ifCond .eq 7, 3) := by decide +kernel
theorem dX7_distinctAt_26 : decode cX7_distinctAt 26 = .ok (.iconst 1, 1) := by decide +kernel
theorem dX7_distinctAt_27 : decode cX7_distinctAt 27 = .ok (.goto 4, 3) := by decide +kernel
theorem dX7_distinctAt_30 : decode cX7_distinctAt 30 = .ok (.iconst 0, 1) := by decide +kernel
theorem dX7_distinctAt_31 : decode cX7_distinctAt 31 = .ok (.istore 4, 2) := by decide +kernel
theorem dX7_distinctAt_33 : decode cX7_distinctAt 33 = .ok (.aload_n 0, 1) := by decide +kernel
theorem dX7_distinctAt_34 : decode cX7_distinctAt 34 = .ok (.iload_n 3, 1) := by decide +kernel
theorem dX7_distinctAt_35 : decode cX7_distinctAt 35 = .ok (.ifCond .ne 7, 3) := by decide +kernel
theorem dX7_distinctAt_38 : decode cX7_distinctAt 38 = .ok (.iconst 1, 1) := by decide +kernel
theorem dX7_distinctAt_39 : decode cX7_distinctAt 39 = .ok (.goto 13, 3) := by decide +kernel
theorem dX7_distinctAt_42 : decode cX7_distinctAt 42 = .ok (.iload 4, 2) := by decide +kernel
theorem dX7_distinctAt_44 : decode cX7_distinctAt 44 = .ok (.ifCond .eq 7, 3) := by decide +kernel
theorem dX7_distinctAt_47 : decode cX7_distinctAt 47 = .ok (.iconst 0, 1) := by decide +kernel
theorem dX7_distinctAt_48 : decode cX7_distinctAt 48 = .ok (.goto 4, 3) := by decide +kernel
theorem dX7_distinctAt_51 : decode cX7_distinctAt 51 = .ok (.iconst 2, 1) := by decide +kernel
theorem dX7_distinctAt_52 : decode cX7_distinctAt 52 = .ok (.invokevirtual 49, 3) := by decide +kernel
theorem dX7_distinctAt_55 : decode cX7_distinctAt 55 = .ok (.ifCond .eq 7, 3) := by decide +kernel
theorem dX7_distinctAt_58 : decode cX7_distinctAt 58 = .ok (.iconst (-1), 1) := by decide +kernel
theorem dX7_distinctAt_59 : decode cX7_distinctAt 59 = .ok (.goto 8, 3) := by decide +kernel
theorem dX7_distinctAt_62 : decode cX7_distinctAt 62 = .ok (.aload_n 0, 1) := by decide +kernel
theorem dX7_distinctAt_63 : decode cX7_distinctAt 63 = .ok (.iload_n 2, 1) := by decide +kernel
theorem dX7_distinctAt_64 : decode cX7_distinctAt 64 = .ok (.invokevirtual 107, 3) := by decide +kernel
theorem dX7_distinctAt_67 : decode cX7_distinctAt 67 = .ok (.ireturn, 1) := by decide +kernel
set_option maxRecDepth 20000 in
theorem ggX7_distinctItem_X7_distinctAt : GoodIn wsX7_distinctItem wsX7_distinctAt := goodIn_r _ [6, 7, 8, 5, 9, 10, 11, 12, 13, 14, 15, 16, 17, 18, 19, 1, 20, 21, 22, 23, 24, 25, 26, 27, 28, 29, 30, 31, 32, 33, 34, 35, 36, 37, 38, 39, 40, 41, 42, 43, 44, 45, 46, 47, 48, 49, 50, 51] (by decide +kernel) (by decide +kernel)
set_option maxRecDepth 20000 in
theorem gX7_distinctItem_X7_distinctAt : GoodIn wsX7_distinctItem (wsV RX7 110 RX7 yX7_distinctAt wsX7_distinctAt) := goodIn_app (goodIn_of _ (by decide +kernel)) ggX7_distinctItem_X7_distinctAt
theorem dX7_distinctItem_0 : decode cX7_distinctItem 0 = .ok (.aload_n 0, 1) := by decide +kernel
theorem dX7_distinctItem_1 : decode cX7_distinctItem 1 = .ok (.iload_n 1, 1) := by decide +kernel
theorem dX7_distinctItem_2 : decode cX7_distinctItem 2 = .ok (.iload_n 2, 1) := by decide +kernel
theorem dX7_distinctItem_3 : decode cX7_distinctItem 3 = .ok (.invokevirtual 110, 3) := by decide +kernel
theorem dX7_distinctItem_6 : decode cX7_distinctItem 6 = .ok (.istore_n 3, 1) := by decide +kernel
theorem dX7_distinctItem_7 : decode cX7_distinctItem 7 = .ok (.iload_n 3, 1) := by decide +kernel
theorem dX7_distinctItem_8 : decode cX7_distinctItem 8 = .ok (.iconst (-1), 1) := by decide +kernel
theorem dX7_distinctItem_9 : decode cX7_distinctItem 9 = .ok (.if_icmp .ne 7, 3) := by decide +kernel
theorem dX7_distinctItem_12 : decode cX7_distinctItem 12 = .ok (.iconst 0, 1) := by decide +kernel
theorem dX7_distinctItem_13 : decode cX7_distinctItem 13 = .ok (.goto 9, 3) := by decide +kernel
theorem dX7_distinctItem_16 : decode cX7_distinctItem 16 = .ok (.aload_n 0, 1) := by decide +kernel
theorem dX7_distinctItem_17 : decode cX7_distinctItem 17 = .ok (.getfield 20, 3) := by decide +kernel
theorem dX7_distinctItem_20 : decode cX7_distinctItem 20 = .ok (.iload_n 3, 1) := by decide +kernel
theorem dX7_distinctItem_21 : decode cX7_distinctItem 21 = .ok (.iaload, 1) := by decide +kernel
theorem dX7_distinctItem_22 : decode cX7_distinctItem 22 = .ok (.ireturn, 1) := by decide +kernel
set_option maxRecDepth 20000 in
theorem ggX7_distinctOffers_X7_distinctAt : GoodIn wsX7_distinctOffers wsX7_distinctAt := goodIn_r _ [6, 7, 8, 5, 9, 10, 11, 12, 13, 14, 15, 16, 17, 18, 19, 1, 20, 21, 22, 23, 24, 25, 26, 27, 28, 29, 30, 31, 32, 33, 34, 35, 36, 37, 38, 39, 40, 41, 42, 43, 44, 45, 46, 47, 48, 49, 50, 51] (by decide +kernel) (by decide +kernel)
set_option maxRecDepth 20000 in
theorem gX7_distinctOffers_X7_distinctAt : GoodIn wsX7_distinctOffers (wsV RX7 110 RX7 yX7_distinctAt wsX7_distinctAt) := goodIn_app (goodIn_of _ (by decide +kernel)) ggX7_distinctOffers_X7_distinctAt
set_option maxRecDepth 20000 in
theorem ggX7_distinctOffers_X7_isOf : GoodIn wsX7_distinctOffers wsX7_isOf := goodIn_r _ [23, 24, 39, 40, 41, 42, 43, 44, 45, 46, 47, 48, 49, 50, 51] (by decide +kernel) (by decide +kernel)
set_option maxRecDepth 20000 in
theorem gX7_distinctOffers_X7_isOf : GoodIn wsX7_distinctOffers (wsV RX7 61 RX7 yX7_isOf wsX7_isOf) := goodIn_app (goodIn_of _ (by decide +kernel)) ggX7_distinctOffers_X7_isOf
theorem dX7_distinctOffers_0 : decode cX7_distinctOffers 0 = .ok (.aload_n 0, 1) := by decide +kernel
theorem dX7_distinctOffers_1 : decode cX7_distinctOffers 1 = .ok (.iload_n 1, 1) := by decide +kernel
theorem dX7_distinctOffers_2 : decode cX7_distinctOffers 2 = .ok (.iload_n 2, 1) := by decide +kernel
theorem dX7_distinctOffers_3 : decode cX7_distinctOffers 3 = .ok (.invokevirtual 110, 3) := by decide +kernel
theorem dX7_distinctOffers_6 : decode cX7_distinctOffers 6 = .ok (.istore_n 3, 1) := by decide +kernel
theorem dX7_distinctOffers_7 : decode cX7_distinctOffers 7 = .ok (.iconst 0, 1) := by decide +kernel
theorem dX7_distinctOffers_8 : decode cX7_distinctOffers 8 = .ok (.istore 4, 2) := by decide +kernel
theorem dX7_distinctOffers_10 : decode cX7_distinctOffers 10 = .ok (.iconst 0, 1) := by decide +kernel
theorem dX7_distinctOffers_11 : decode cX7_distinctOffers 11 = .ok (.istore 5, 2) := by decide +kernel
theorem dX7_distinctOffers_13 : decode cX7_distinctOffers 13 = .ok (.iload 5, 2) := by decide +kernel
theorem dX7_distinctOffers_15 : decode cX7_distinctOffers 15 = .ok (.sipush 600, 3) := by decide +kernel
theorem dX7_distinctOffers_18 : decode cX7_distinctOffers 18 = .ok (.if_icmp .ge 50, 3) := by decide +kernel
theorem dX7_distinctOffers_21 : decode cX7_distinctOffers 21 = .ok (.iload_n 3, 1) := by decide +kernel
theorem dX7_distinctOffers_22 : decode cX7_distinctOffers 22 = .ok (.iconst (-1), 1) := by decide +kernel
theorem dX7_distinctOffers_23 : decode cX7_distinctOffers 23 = .ok (.if_icmp .eq 45, 3) := by decide +kernel
theorem dX7_distinctOffers_26 : decode cX7_distinctOffers 26 = .ok (.iload 4, 2) := by decide +kernel
theorem dX7_distinctOffers_28 : decode cX7_distinctOffers 28 = .ok (.aload_n 0, 1) := by decide +kernel
theorem dX7_distinctOffers_29 : decode cX7_distinctOffers 29 = .ok (.iload_n 1, 1) := by decide +kernel
theorem dX7_distinctOffers_30 : decode cX7_distinctOffers 30 = .ok (.iload 5, 2) := by decide +kernel
theorem dX7_distinctOffers_32 : decode cX7_distinctOffers 32 = .ok (.invokevirtual 61, 3) := by decide +kernel
theorem dX7_distinctOffers_35 : decode cX7_distinctOffers 35 = .ok (.ifCond .eq 23, 3) := by decide +kernel
theorem dX7_distinctOffers_38 : decode cX7_distinctOffers 38 = .ok (.aload_n 0, 1) := by decide +kernel
theorem dX7_distinctOffers_39 : decode cX7_distinctOffers 39 = .ok (.getfield 20, 3) := by decide +kernel
theorem dX7_distinctOffers_42 : decode cX7_distinctOffers 42 = .ok (.iload 5, 2) := by decide +kernel
theorem dX7_distinctOffers_44 : decode cX7_distinctOffers 44 = .ok (.iaload, 1) := by decide +kernel
theorem dX7_distinctOffers_45 : decode cX7_distinctOffers 45 = .ok (.aload_n 0, 1) := by decide +kernel
theorem dX7_distinctOffers_46 : decode cX7_distinctOffers 46 = .ok (.getfield 20, 3) := by decide +kernel
theorem dX7_distinctOffers_49 : decode cX7_distinctOffers 49 = .ok (.iload_n 3, 1) := by decide +kernel
theorem dX7_distinctOffers_50 : decode cX7_distinctOffers 50 = .ok (.iaload, 1) := by decide +kernel
theorem dX7_distinctOffers_51 : decode cX7_distinctOffers 51 = .ok (.if_icmp .ne 7, 3) := by decide +kernel
theorem dX7_distinctOffers_54 : decode cX7_distinctOffers 54 = .ok (.iconst 1, 1) := by decide +kernel
theorem dX7_distinctOffers_55 : decode cX7_distinctOffers 55 = .ok (.goto 4, 3) := by decide +kernel
theorem dX7_distinctOffers_58 : decode cX7_distinctOffers 58 = .ok (.iconst 0, 1) := by decide +kernel
theorem dX7_distinctOffers_59 : decode cX7_distinctOffers 59 = .ok (.iadd, 1) := by decide +kernel
theorem dX7_distinctOffers_60 : decode cX7_distinctOffers 60 = .ok (.istore 4, 2) := by decide +kernel
theorem dX7_distinctOffers_62 : decode cX7_distinctOffers 62 = .ok (.iinc 5 1, 3) := by decide +kernel
theorem dX7_distinctOffers_65 : decode cX7_distinctOffers 65 = .ok (.goto (-52), 3) := by decide +kernel
theorem dX7_distinctOffers_68 : decode cX7_distinctOffers 68 = .ok (.iload 4, 2) := by decide +kernel
theorem dX7_distinctOffers_70 : decode cX7_distinctOffers 70 = .ok (.ireturn, 1) := by decide +kernel
set_option maxRecDepth 20000 in
theorem ggX7_distinctEstimate_X7_noStream : GoodIn wsX7_distinctEstimate wsX7_noStream := goodIn_r _ [8, 9, 10, 7, 11, 12, 13, 14, 15, 16, 39, 40, 41, 42, 43, 44, 45, 46, 47, 48, 49, 50, 51] (by decide +kernel) (by decide +kernel)
set_option maxRecDepth 20000 in
theorem gX7_distinctEstimate_X7_noStream : GoodIn wsX7_distinctEstimate (wsV RX7 54 RX7 yX7_noStream wsX7_noStream) := goodIn_app (goodIn_of _ (by decide +kernel)) ggX7_distinctEstimate_X7_noStream
set_option maxRecDepth 20000 in
theorem ggX7_distinctEstimate_X7_distinctIn : GoodIn wsX7_distinctEstimate wsX7_distinctIn := goodIn_r _ [20, 1, 21, 22, 23, 7, 24, 25, 3, 26, 27, 28, 29, 30, 39, 40, 41, 42, 43, 44, 45, 46, 47, 48, 49, 50, 51] (by decide +kernel) (by decide +kernel)
set_option maxRecDepth 20000 in
theorem gX7_distinctEstimate_X7_distinctIn : GoodIn wsX7_distinctEstimate (wsV RX7 104 RX7 yX7_distinctIn wsX7_distinctIn) := goodIn_app (goodIn_of _ (by decide +kernel)) ggX7_distinctEstimate_X7_distinctIn
set_option maxRecDepth 20000 in
theorem ggX7_distinctEstimate_X7_hashed : GoodIn wsX7_distinctEstimate wsX7_hashed := goodIn_r _ [34, 25, 3, 35, 36, 7, 37, 38, 2, 39, 40, 41, 42, 43, 44, 45, 46, 47, 48, 49, 50, 51] (by decide +kernel) (by decide +kernel)
set_option maxRecDepth 20000 in
theorem gX7_distinctEstimate_X7_hashed : GoodIn wsX7_distinctEstimate (wsV RX7 107 RX7 yX7_hashed wsX7_hashed) := goodIn_app (goodIn_of _ (by decide +kernel)) ggX7_distinctEstimate_X7_hashed
set_option maxRecDepth 20000 in
theorem ggX7_distinctEstimate_X7_hash : GoodIn wsX7_distinctEstimate wsX7_hash := goodIn_r _ [37, 38, 2] (by decide +kernel) (by decide +kernel)
set_option maxRecDepth 20000 in
theorem gX7_distinctEstimate_X7_hash : GoodIn wsX7_distinctEstimate (va_wsS RX7 101 yX7_hash wsX7_hash) := goodIn_app (goodIn_of _ (by decide +kernel)) ggX7_distinctEstimate_X7_hash
theorem dX7_distinctEstimate_0 : decode cX7_distinctEstimate 0 = .ok (.aload_n 0, 1) := by decide +kernel
theorem dX7_distinctEstimate_1 : decode cX7_distinctEstimate 1 = .ok (.iload_n 1, 1) := by decide +kernel
theorem dX7_distinctEstimate_2 : decode cX7_distinctEstimate 2 = .ok (.iconst 2, 1) := by decide +kernel
theorem dX7_distinctEstimate_3 : decode cX7_distinctEstimate 3 = .ok (.invokevirtual 54, 3) := by decide +kernel
theorem dX7_distinctEstimate_6 : decode cX7_distinctEstimate 6 = .ok (.ifCond .eq 5, 3) := by decide +kernel
theorem dX7_distinctEstimate_9 : decode cX7_distinctEstimate 9 = .ok (.lconst 0, 1) := by decide +kernel
theorem dX7_distinctEstimate_10 : decode cX7_distinctEstimate 10 = .ok (.lreturn, 1) := by decide +kernel
theorem dX7_distinctEstimate_11 : decode cX7_distinctEstimate 11 = .ok (.aload_n 0, 1) := by decide +kernel
theorem dX7_distinctEstimate_12 : decode cX7_distinctEstimate 12 = .ok (.iload_n 1, 1) := by decide +kernel
theorem dX7_distinctEstimate_13 : decode cX7_distinctEstimate 13 = .ok (.invokevirtual 104, 3) := by decide +kernel
theorem dX7_distinctEstimate_16 : decode cX7_distinctEstimate 16 = .ok (.istore_n 2, 1) := by decide +kernel
theorem dX7_distinctEstimate_17 : decode cX7_distinctEstimate 17 = .ok (.iload_n 2, 1) := by decide +kernel
theorem dX7_distinctEstimate_18 : decode cX7_distinctEstimate 18 = .ok (.aload_n 0, 1) := by decide +kernel
theorem dX7_distinctEstimate_19 : decode cX7_distinctEstimate 19 = .ok (.getfield 7, 3) := by decide +kernel
theorem dX7_distinctEstimate_22 : decode cX7_distinctEstimate 22 = .ok (.if_icmp .ge 8, 3) := by decide +kernel
theorem dX7_distinctEstimate_25 : decode cX7_distinctEstimate 25 = .ok (.iload_n 2, 1) := by decide +kernel
theorem dX7_distinctEstimate_26 : decode cX7_distinctEstimate 26 = .ok (.i2l, 1) := by decide +kernel
theorem dX7_distinctEstimate_27 : decode cX7_distinctEstimate 27 = .ok (.goto 33, 3) := by decide +kernel
theorem dX7_distinctEstimate_30 : decode cX7_distinctEstimate 30 = .ok (.aload_n 0, 1) := by decide +kernel
theorem dX7_distinctEstimate_31 : decode cX7_distinctEstimate 31 = .ok (.getfield 7, 3) := by decide +kernel
theorem dX7_distinctEstimate_34 : decode cX7_distinctEstimate 34 = .ok (.i2l, 1) := by decide +kernel
theorem dX7_distinctEstimate_35 : decode cX7_distinctEstimate 35 = .ok (.lconst 1, 1) := by decide +kernel
theorem dX7_distinctEstimate_36 : decode cX7_distinctEstimate 36 = .ok (.lsub, 1) := by decide +kernel
theorem dX7_distinctEstimate_37 : decode cX7_distinctEstimate 37 = .ok (.ldc2_w 96, 3) := by decide +kernel
theorem dX7_distinctEstimate_40 : decode cX7_distinctEstimate 40 = .ok (.lmul, 1) := by decide +kernel
theorem dX7_distinctEstimate_41 : decode cX7_distinctEstimate 41 = .ok (.aload_n 0, 1) := by decide +kernel
theorem dX7_distinctEstimate_42 : decode cX7_distinctEstimate 42 = .ok (.getfield 20, 3) := by decide +kernel
theorem dX7_distinctEstimate_45 : decode cX7_distinctEstimate 45 = .ok (.aload_n 0, 1) := by decide +kernel
theorem dX7_distinctEstimate_46 : decode cX7_distinctEstimate 46 = .ok (.aload_n 0, 1) := by decide +kernel
theorem dX7_distinctEstimate_47 : decode cX7_distinctEstimate 47 = .ok (.getfield 7, 3) := by decide +kernel
theorem dX7_distinctEstimate_50 : decode cX7_distinctEstimate 50 = .ok (.iconst 1, 1) := by decide +kernel
theorem dX7_distinctEstimate_51 : decode cX7_distinctEstimate 51 = .ok (.isub, 1) := by decide +kernel
theorem dX7_distinctEstimate_52 : decode cX7_distinctEstimate 52 = .ok (.invokevirtual 107, 3) := by decide +kernel
theorem dX7_distinctEstimate_55 : decode cX7_distinctEstimate 55 = .ok (.iaload, 1) := by decide +kernel
theorem dX7_distinctEstimate_56 : decode cX7_distinctEstimate 56 = .ok (.invokestatic 101, 3) := by decide +kernel
theorem dX7_distinctEstimate_59 : decode cX7_distinctEstimate 59 = .ok (.ldiv, 1) := by decide +kernel
theorem dX7_distinctEstimate_60 : decode cX7_distinctEstimate 60 = .ok (.lreturn, 1) := by decide +kernel
theorem dX7_runChain_0 : decode cX7_runChain 0 = .ok (.aload_n 0, 1) := by decide +kernel
theorem dX7_runChain_1 : decode cX7_runChain 1 = .ok (.iconst 0, 1) := by decide +kernel
theorem dX7_runChain_2 : decode cX7_runChain 2 = .ok (.putfield 113, 3) := by decide +kernel
theorem dX7_runChain_5 : decode cX7_runChain 5 = .ok (.aload_n 0, 1) := by decide +kernel
theorem dX7_runChain_6 : decode cX7_runChain 6 = .ok (.iconst 0, 1) := by decide +kernel
theorem dX7_runChain_7 : decode cX7_runChain 7 = .ok (.putfield 116, 3) := by decide +kernel
theorem dX7_runChain_10 : decode cX7_runChain 10 = .ok (.iconst 1, 1) := by decide +kernel
theorem dX7_runChain_11 : decode cX7_runChain 11 = .ok (.istore_n 2, 1) := by decide +kernel
theorem dX7_runChain_12 : decode cX7_runChain 12 = .ok (.iload_n 2, 1) := by decide +kernel
theorem dX7_runChain_13 : decode cX7_runChain 13 = .ok (.aload_n 0, 1) := by decide +kernel
theorem dX7_runChain_14 : decode cX7_runChain 14 = .ok (.getfield 16, 3) := by decide +kernel
theorem dX7_runChain_17 : decode cX7_runChain 17 = .ok (.iload_n 1, 1) := by decide +kernel
theorem dX7_runChain_18 : decode cX7_runChain 18 = .ok (.iaload, 1) := by decide +kernel
theorem dX7_runChain_19 : decode cX7_runChain 19 = .ok (.if_icmp .gt 183, 3) := by decide +kernel
theorem dX7_runChain_22 : decode cX7_runChain 22 = .ok (.sipush 300, 3) := by decide +kernel
theorem dX7_runChain_25 : decode cX7_runChain 25 = .ok (.iload_n 1, 1) := by decide +kernel
theorem dX7_runChain_26 : decode cX7_runChain 26 = .ok (.imul, 1) := by decide +kernel
theorem dX7_runChain_27 : decode cX7_runChain 27 = .ok (.iload_n 2, 1) := by decide +kernel
theorem dX7_runChain_28 : decode cX7_runChain 28 = .ok (.iadd, 1) := by decide +kernel
theorem dX7_runChain_29 : decode cX7_runChain 29 = .ok (.iconst 1, 1) := by decide +kernel
theorem dX7_runChain_30 : decode cX7_runChain 30 = .ok (.isub, 1) := by decide +kernel
theorem dX7_runChain_31 : decode cX7_runChain 31 = .ok (.istore_n 3, 1) := by decide +kernel
theorem dX7_runChain_32 : decode cX7_runChain 32 = .ok (.aload_n 0, 1) := by decide +kernel
theorem dX7_runChain_33 : decode cX7_runChain 33 = .ok (.getfield 29, 3) := by decide +kernel
theorem dX7_runChain_36 : decode cX7_runChain 36 = .ok (.iload_n 3, 1) := by decide +kernel
theorem dX7_runChain_37 : decode cX7_runChain 37 = .ok (.iaload, 1) := by decide +kernel
theorem dX7_runChain_38 : decode cX7_runChain 38 = .ok (.iload_n 2, 1) := by decide +kernel
theorem dX7_runChain_39 : decode cX7_runChain 39 = .ok (.aload_n 0, 1) := by decide +kernel
theorem dX7_runChain_40 : decode cX7_runChain 40 = .ok (.getfield 13, 3) := by decide +kernel
theorem dX7_runChain_43 : decode cX7_runChain 43 = .ok (.if_icmp .ge 7, 3) := by decide +kernel
theorem dX7_runChain_46 : decode cX7_runChain 46 = .ok (.iload_n 2, 1) := by decide +kernel
theorem dX7_runChain_47 : decode cX7_runChain 47 = .ok (.goto 7, 3) := by decide +kernel
theorem dX7_runChain_50 : decode cX7_runChain 50 = .ok (.aload_n 0, 1) := by decide +kernel
theorem dX7_runChain_51 : decode cX7_runChain 51 = .ok (.getfield 13, 3) := by decide +kernel
theorem dX7_runChain_54 : decode cX7_runChain 54 = .ok (.irem, 1) := by decide +kernel
theorem dX7_runChain_55 : decode cX7_runChain 55 = .ok (.ifCond .ne 7, 3) := by decide +kernel
theorem dX7_runChain_58 : decode cX7_runChain 58 = .ok (.iconst 1, 1) := by decide +kernel
theorem dX7_runChain_59 : decode cX7_runChain 59 = .ok (.goto 4, 3) := by decide +kernel
theorem dX7_runChain_62 : decode cX7_runChain 62 = .ok (.iconst 0, 1) := by decide +kernel
theorem dX7_runChain_63 : decode cX7_runChain 63 = .ok (.istore 4, 2) := by decide +kernel
theorem dX7_runChain_65 : decode cX7_runChain 65 = .ok (.iload 4, 2) := by decide +kernel
theorem dX7_runChain_67 : decode cX7_runChain 67 = .ok (.ifCond .ne 11, 3) := by decide +kernel
theorem dX7_runChain_70 : decode cX7_runChain 70 = .ok (.iload_n 2, 1) := by decide +kernel
theorem dX7_runChain_71 : decode cX7_runChain 71 = .ok (.aload_n 0, 1) := by decide +kernel
theorem dX7_runChain_72 : decode cX7_runChain 72 = .ok (.getfield 116, 3) := by decide +kernel
theorem dX7_runChain_75 : decode cX7_runChain 75 = .ok (.if_icmp .ne 59, 3) := by decide +kernel
theorem dX7_runChain_78 : decode cX7_runChain 78 = .ok (.aload_n 0, 1) := by decide +kernel
theorem dX7_runChain_79 : decode cX7_runChain 79 = .ok (.iload 4, 2) := by decide +kernel
theorem dX7_runChain_81 : decode cX7_runChain 81 = .ok (.ifCond .eq 7, 3) := by decide +kernel
theorem dX7_runChain_84 : decode cX7_runChain 84 = .ok (.iconst 0, 1) := by decide +kernel
theorem dX7_runChain_85 : decode cX7_runChain 85 = .ok (.goto 7, 3) := by decide +kernel
theorem dX7_runChain_88 : decode cX7_runChain 88 = .ok (.aload_n 0, 1) := by decide +kernel
theorem dX7_runChain_89 : decode cX7_runChain 89 = .ok (.getfield 113, 3) := by decide +kernel
theorem dX7_runChain_92 : decode cX7_runChain 92 = .ok (.putfield 113, 3) := by decide +kernel
theorem dX7_runChain_95 : decode cX7_runChain 95 = .ok (.aload_n 0, 1) := by decide +kernel
theorem dX7_runChain_96 : decode cX7_runChain 96 = .ok (.getfield 39, 3) := by decide +kernel
theorem dX7_runChain_99 : decode cX7_runChain 99 = .ok (.aload_n 0, 1) := by decide +kernel
theorem dX7_runChain_100 : decode cX7_runChain 100 = .ok (.getfield 113, 3) := by decide +kernel
theorem dX7_runChain_103 : decode cX7_runChain 103 = .ok (.iload_n 2, 1) := by decide +kernel
theorem dX7_runChain_104 : decode cX7_runChain 104 = .ok (.iastore, 1) := by decide +kernel
theorem dX7_runChain_105 : decode cX7_runChain 105 = .ok (.aload_n 0, 1) := by decide +kernel
theorem dX7_runChain_106 : decode cX7_runChain 106 = .ok (.dup, 1) := by decide +kernel
theorem dX7_runChain_107 : decode cX7_runChain 107 = .ok (.getfield 113, 3) := by decide +kernel
theorem dX7_runChain_110 : decode cX7_runChain 110 = .ok (.iconst 1, 1) := by decide +kernel
theorem dX7_runChain_111 : decode cX7_runChain 111 = .ok (.iadd, 1) := by decide +kernel
theorem dX7_runChain_112 : decode cX7_runChain 112 = .ok (.putfield 113, 3) := by decide +kernel
theorem dX7_runChain_115 : decode cX7_runChain 115 = .ok (.aload_n 0, 1) := by decide +kernel
theorem dX7_runChain_116 : decode cX7_runChain 116 = .ok (.iload_n 2, 1) := by decide +kernel
theorem dX7_runChain_117 : decode cX7_runChain 117 = .ok (.iconst 1, 1) := by decide +kernel
theorem dX7_runChain_118 : decode cX7_runChain 118 = .ok (.iadd, 1) := by decide +kernel
theorem dX7_runChain_119 : decode cX7_runChain 119 = .ok (.aload_n 0, 1) := by decide +kernel
theorem dX7_runChain_120 : decode cX7_runChain 120 = .ok (.getfield 32, 3) := by decide +kernel
theorem dX7_runChain_123 : decode cX7_runChain 123 = .ok (.iload_n 3, 1) := by decide +kernel
theorem dX7_runChain_124 : decode cX7_runChain 124 = .ok (.iaload, 1) := by decide +kernel
theorem dX7_runChain_125 : decode cX7_runChain 125 = .ok (.aload_n 0, 1) := by decide +kernel
theorem dX7_runChain_126 : decode cX7_runChain 126 = .ok (.getfield 13, 3) := by decide +kernel
theorem dX7_runChain_129 : decode cX7_runChain 129 = .ok (.irem, 1) := by decide +kernel
theorem dX7_runChain_130 : decode cX7_runChain 130 = .ok (.iadd, 1) := by decide +kernel
theorem dX7_runChain_131 : decode cX7_runChain 131 = .ok (.putfield 116, 3) := by decide +kernel
theorem dX7_runChain_134 : decode cX7_runChain 134 = .ok (.aload_n 0, 1) := by decide +kernel
theorem dX7_runChain_135 : decode cX7_runChain 135 = .ok (.getfield 39, 3) := by decide +kernel
theorem dX7_runChain_138 : decode cX7_runChain 138 = .ok (.iconst 0, 1) := by decide +kernel
theorem dX7_runChain_139 : decode cX7_runChain 139 = .ok (.iaload, 1) := by decide +kernel
theorem dX7_runChain_140 : decode cX7_runChain 140 = .ok (.iload_n 2, 1) := by decide +kernel
theorem dX7_runChain_141 : decode cX7_runChain 141 = .ok (.aload_n 0, 1) := by decide +kernel
theorem dX7_runChain_142 : decode cX7_runChain 142 = .ok (.getfield 13, 3) := by decide +kernel
theorem dX7_runChain_145 : decode cX7_runChain 145 = .ok (.isub, 1) := by decide +kernel
theorem dX7_runChain_146 : decode cX7_runChain 146 = .ok (.if_icmp .gt 50, 3) := by decide +kernel
theorem dX7_runChain_149 : decode cX7_runChain 149 = .ok (.aload_n 0, 1) := by decide +kernel
theorem dX7_runChain_150 : decode cX7_runChain 150 = .ok (.dup, 1) := by decide +kernel
theorem dX7_runChain_151 : decode cX7_runChain 151 = .ok (.getfield 113, 3) := by decide +kernel
theorem dX7_runChain_154 : decode cX7_runChain 154 = .ok (.iconst 1, 1) := by decide +kernel
theorem dX7_runChain_155 : decode cX7_runChain 155 = .ok (.isub, 1) := by decide +kernel
theorem dX7_runChain_156 : decode cX7_runChain 156 = .ok (.putfield 113, 3) := by decide +kernel
theorem dX7_runChain_159 : decode cX7_runChain 159 = .ok (.iconst 0, 1) := by decide +kernel
theorem dX7_runChain_160 : decode cX7_runChain 160 = .ok (.istore 5, 2) := by decide +kernel
theorem dX7_runChain_162 : decode cX7_runChain 162 = .ok (.iload 5, 2) := by decide +kernel
theorem dX7_runChain_164 : decode cX7_runChain 164 = .ok (.aload_n 0, 1) := by decide +kernel
theorem dX7_runChain_165 : decode cX7_runChain 165 = .ok (.getfield 113, 3) := by decide +kernel
theorem dX7_runChain_168 : decode cX7_runChain 168 = .ok (.if_icmp .ge 25, 3) := by decide +kernel
theorem dX7_runChain_171 : decode cX7_runChain 171 = .ok (.aload_n 0, 1) := by decide +kernel
theorem dX7_runChain_172 : decode cX7_runChain 172 = .ok (.getfield 39, 3) := by decide +kernel
theorem dX7_runChain_175 : decode cX7_runChain 175 = .ok (.iload 5, 2) := by decide +kernel
theorem dX7_runChain_177 : decode cX7_runChain 177 = .ok (.aload_n 0, 1) := by decide +kernel
theorem dX7_runChain_178 : decode cX7_runChain 178 = .ok (.getfield 39, 3) := by decide +kernel
theorem dX7_runChain_181 : decode cX7_runChain 181 = .ok (.iload 5, 2) := by decide +kernel
theorem dX7_runChain_183 : decode cX7_runChain 183 = .ok (.iconst 1, 1) := by decide +kernel
theorem dX7_runChain_184 : decode cX7_runChain 184 = .ok (.iadd, 1) := by decide +kernel
theorem dX7_runChain_185 : decode cX7_runChain 185 = .ok (.iaload, 1) := by decide +kernel
theorem dX7_runChain_186 : decode cX7_runChain 186 = .ok (.iastore, 1) := by decide +kernel
theorem dX7_runChain_187 : decode cX7_runChain 187 = .ok (.iinc 5 1, 3) := by decide +kernel
theorem dX7_runChain_190 : decode cX7_runChain 190 = .ok (.goto (-28), 3) := by decide +kernel
theorem dX7_runChain_193 : decode cX7_runChain 193 = .ok (.goto (-59), 3) := by decide +kernel
theorem dX7_runChain_196 : decode cX7_runChain 196 = .ok (.iinc 2 1, 3) := by decide +kernel
theorem dX7_runChain_199 : decode cX7_runChain 199 = .ok (.goto (-187), 3) := by decide +kernel
theorem dX7_runChain_202 : decode cX7_runChain 202 = .ok (.return_, 1) := by decide +kernel
set_option maxRecDepth 20000 in
theorem ggX7_noWindow_X7_in : GoodIn wsX7_noWindow wsX7_in := goodIn_r _ [5] (by decide +kernel) (by decide +kernel)
end
section
set_option maxRecDepth 20000 in
theorem gX7_noWindow_X7_in : GoodIn wsX7_noWindow (va_wsS RX7 45 yX7_in wsX7_in) := goodIn_app (goodIn_of _ (by decide +kernel)) ggX7_noWindow_X7_in
set_option maxRecDepth 20000 in
theorem ggX7_noWindow_X7_refused : GoodIn wsX7_noWindow wsX7_refused := goodIn_r _ [9, 10, 21, 22, 23, 24, 25, 26, 27, 28, 29, 30, 31, 32, 33] (by decide +kernel) (by decide +kernel)
set_option maxRecDepth 20000 in
theorem gX7_noWindow_X7_refused : GoodIn wsX7_noWindow (wsV RX7 49 RX7 yX7_refused wsX7_refused) := goodIn_app (goodIn_of _ (by decide +kernel)) ggX7_noWindow_X7_refused
set_option maxRecDepth 20000 in
theorem ggX7_noWindow_X7_runChain : GoodIn wsX7_noWindow wsX7_runChain := goodIn_r _ [14, 15, 16, 1, 17, 18, 19, 20, 21, 22, 23, 24, 25, 26, 27, 28, 29, 30, 31, 32, 33] (by decide +kernel) (by decide +kernel)
set_option maxRecDepth 20000 in
theorem gX7_noWindow_X7_runChain : GoodIn wsX7_noWindow (wsV RX7 119 RX7 yX7_runChain wsX7_runChain) := goodIn_app (goodIn_of _ (by decide +kernel)) ggX7_noWindow_X7_runChain
theorem dX7_noWindow_0 : decode cX7_noWindow 0 = .ok (.aload_n 0, 1) := by decide +kernel
theorem dX7_noWindow_1 : decode cX7_noWindow 1 = .ok (.iload_n 1, 1) := by decide +kernel
theorem dX7_noWindow_2 : decode cX7_noWindow 2 = .ok (.iconst 0, 1) := by decide +kernel
theorem dX7_noWindow_3 : decode cX7_noWindow 3 = .ok (.iconst 1, 1) := by decide +kernel
theorem dX7_noWindow_4 : decode cX7_noWindow 4 = .ok (.invokestatic 45, 3) := by decide +kernel
theorem dX7_noWindow_7 : decode cX7_noWindow 7 = .ok (.ifCond .ne 7, 3) := by decide +kernel
theorem dX7_noWindow_10 : decode cX7_noWindow 10 = .ok (.iconst 1, 1) := by decide +kernel
theorem dX7_noWindow_11 : decode cX7_noWindow 11 = .ok (.goto 17, 3) := by decide +kernel
theorem dX7_noWindow_14 : decode cX7_noWindow 14 = .ok (.aload_n 0, 1) := by decide +kernel
theorem dX7_noWindow_15 : decode cX7_noWindow 15 = .ok (.getfield 16, 3) := by decide +kernel
theorem dX7_noWindow_18 : decode cX7_noWindow 18 = .ok (.iload_n 1, 1) := by decide +kernel
theorem dX7_noWindow_19 : decode cX7_noWindow 19 = .ok (.iaload, 1) := by decide +kernel
theorem dX7_noWindow_20 : decode cX7_noWindow 20 = .ok (.ifCond .ne 7, 3) := by decide +kernel
theorem dX7_noWindow_23 : decode cX7_noWindow 23 = .ok (.iconst 2, 1) := by decide +kernel
theorem dX7_noWindow_24 : decode cX7_noWindow 24 = .ok (.goto 4, 3) := by decide +kernel
theorem dX7_noWindow_27 : decode cX7_noWindow 27 = .ok (.iconst 0, 1) := by decide +kernel
theorem dX7_noWindow_28 : decode cX7_noWindow 28 = .ok (.invokevirtual 49, 3) := by decide +kernel
theorem dX7_noWindow_31 : decode cX7_noWindow 31 = .ok (.ifCond .eq 5, 3) := by decide +kernel
theorem dX7_noWindow_34 : decode cX7_noWindow 34 = .ok (.iconst 1, 1) := by decide +kernel
theorem dX7_noWindow_35 : decode cX7_noWindow 35 = .ok (.ireturn, 1) := by decide +kernel
theorem dX7_noWindow_36 : decode cX7_noWindow 36 = .ok (.aload_n 0, 1) := by decide +kernel
theorem dX7_noWindow_37 : decode cX7_noWindow 37 = .ok (.iload_n 1, 1) := by decide +kernel
theorem dX7_noWindow_38 : decode cX7_noWindow 38 = .ok (.invokevirtual 119, 3) := by decide +kernel
theorem dX7_noWindow_41 : decode cX7_noWindow 41 = .ok (.iconst 0, 1) := by decide +kernel
theorem dX7_noWindow_42 : decode cX7_noWindow 42 = .ok (.ireturn, 1) := by decide +kernel
set_option maxRecDepth 20000 in
theorem ggX7_windowItem_X7_noWindow : GoodIn wsX7_windowItem wsX7_noWindow := goodIn_r _ [7, 8, 9, 10, 6, 11, 12, 13, 14, 15, 16, 17, 18, 19, 20, 21, 22, 23, 24, 2, 25, 26, 27, 28, 29, 30, 31, 32, 33, 34, 35, 36, 37, 38] (by decide +kernel) (by decide +kernel)
set_option maxRecDepth 20000 in
theorem gX7_windowItem_X7_noWindow : GoodIn wsX7_windowItem (wsV RX7 123 RX7 yX7_noWindow wsX7_noWindow) := goodIn_app (goodIn_of _ (by decide +kernel)) ggX7_windowItem_X7_noWindow
theorem dX7_windowItem_0 : decode cX7_windowItem 0 = .ok (.aload_n 0, 1) := by decide +kernel
theorem dX7_windowItem_1 : decode cX7_windowItem 1 = .ok (.iload_n 1, 1) := by decide +kernel
theorem dX7_windowItem_2 : decode cX7_windowItem 2 = .ok (.invokevirtual 123, 3) := by decide +kernel
theorem dX7_windowItem_5 : decode cX7_windowItem 5 = .ok (.ifCond .eq 7, 3) := by decide +kernel
theorem dX7_windowItem_8 : decode cX7_windowItem 8 = .ok (.iconst 0, 1) := by decide +kernel
theorem dX7_windowItem_9 : decode cX7_windowItem 9 = .ok (.goto 22, 3) := by decide +kernel
theorem dX7_windowItem_12 : decode cX7_windowItem 12 = .ok (.aload_n 0, 1) := by decide +kernel
theorem dX7_windowItem_13 : decode cX7_windowItem 13 = .ok (.getfield 20, 3) := by decide +kernel
theorem dX7_windowItem_16 : decode cX7_windowItem 16 = .ok (.sipush 300, 3) := by decide +kernel
theorem dX7_windowItem_19 : decode cX7_windowItem 19 = .ok (.iload_n 1, 1) := by decide +kernel
theorem dX7_windowItem_20 : decode cX7_windowItem 20 = .ok (.imul, 1) := by decide +kernel
theorem dX7_windowItem_21 : decode cX7_windowItem 21 = .ok (.aload_n 0, 1) := by decide +kernel
theorem dX7_windowItem_22 : decode cX7_windowItem 22 = .ok (.getfield 39, 3) := by decide +kernel
theorem dX7_windowItem_25 : decode cX7_windowItem 25 = .ok (.iconst 0, 1) := by decide +kernel
theorem dX7_windowItem_26 : decode cX7_windowItem 26 = .ok (.iaload, 1) := by decide +kernel
theorem dX7_windowItem_27 : decode cX7_windowItem 27 = .ok (.iadd, 1) := by decide +kernel
theorem dX7_windowItem_28 : decode cX7_windowItem 28 = .ok (.iconst 1, 1) := by decide +kernel
theorem dX7_windowItem_29 : decode cX7_windowItem 29 = .ok (.isub, 1) := by decide +kernel
theorem dX7_windowItem_30 : decode cX7_windowItem 30 = .ok (.iaload, 1) := by decide +kernel
theorem dX7_windowItem_31 : decode cX7_windowItem 31 = .ok (.ireturn, 1) := by decide +kernel
set_option maxRecDepth 20000 in
theorem ggX7_windowPosition_X7_noWindow : GoodIn wsX7_windowPosition wsX7_noWindow := goodIn_r _ [6, 7, 8, 9, 5, 10, 11, 12, 13, 14, 15, 16, 17, 18, 19, 20, 21, 22, 23, 1, 24, 25, 26, 27, 28, 29, 30, 31, 32, 33, 34, 35, 36, 37] (by decide +kernel) (by decide +kernel)
set_option maxRecDepth 20000 in
theorem gX7_windowPosition_X7_noWindow : GoodIn wsX7_windowPosition (wsV RX7 123 RX7 yX7_noWindow wsX7_noWindow) := goodIn_app (goodIn_of _ (by decide +kernel)) ggX7_windowPosition_X7_noWindow
theorem dX7_windowPosition_0 : decode cX7_windowPosition 0 = .ok (.aload_n 0, 1) := by decide +kernel
theorem dX7_windowPosition_1 : decode cX7_windowPosition 1 = .ok (.iload_n 1, 1) := by decide +kernel
theorem dX7_windowPosition_2 : decode cX7_windowPosition 2 = .ok (.invokevirtual 123, 3) := by decide +kernel
theorem dX7_windowPosition_5 : decode cX7_windowPosition 5 = .ok (.ifCond .eq 7, 3) := by decide +kernel
theorem dX7_windowPosition_8 : decode cX7_windowPosition 8 = .ok (.iconst 0, 1) := by decide +kernel
theorem dX7_windowPosition_9 : decode cX7_windowPosition 9 = .ok (.goto 9, 3) := by decide +kernel
theorem dX7_windowPosition_12 : decode cX7_windowPosition 12 = .ok (.aload_n 0, 1) := by decide +kernel
theorem dX7_windowPosition_13 : decode cX7_windowPosition 13 = .ok (.getfield 39, 3) := by decide +kernel
theorem dX7_windowPosition_16 : decode cX7_windowPosition 16 = .ok (.iconst 0, 1) := by decide +kernel
theorem dX7_windowPosition_17 : decode cX7_windowPosition 17 = .ok (.iaload, 1) := by decide +kernel
theorem dX7_windowPosition_18 : decode cX7_windowPosition 18 = .ok (.ireturn, 1) := by decide +kernel
set_option maxRecDepth 20000 in
theorem ggX7_chainLength_X7_noStream : GoodIn wsX7_chainLength wsX7_noStream := goodIn_r _ [6, 7, 8, 5, 9, 10, 11, 12, 13, 14, 25, 26, 27, 28, 29, 30, 31, 32, 33, 34, 35, 36, 37] (by decide +kernel) (by decide +kernel)
set_option maxRecDepth 20000 in
theorem gX7_chainLength_X7_noStream : GoodIn wsX7_chainLength (wsV RX7 54 RX7 yX7_noStream wsX7_noStream) := goodIn_app (goodIn_of _ (by decide +kernel)) ggX7_chainLength_X7_noStream
set_option maxRecDepth 20000 in
theorem ggX7_chainLength_X7_runChain : GoodIn wsX7_chainLength wsX7_runChain := goodIn_r _ [18, 1, 19, 20, 21, 22, 23, 24, 25, 26, 27, 28, 29, 30, 31, 32, 33, 34, 35, 36, 37] (by decide +kernel) (by decide +kernel)
set_option maxRecDepth 20000 in
theorem gX7_chainLength_X7_runChain : GoodIn wsX7_chainLength (wsV RX7 119 RX7 yX7_runChain wsX7_runChain) := goodIn_app (goodIn_of _ (by decide +kernel)) ggX7_chainLength_X7_runChain
theorem dX7_chainLength_0 : decode cX7_chainLength 0 = .ok (.aload_n 0, 1) := by decide +kernel
theorem dX7_chainLength_1 : decode cX7_chainLength 1 = .ok (.iload_n 1, 1) := by decide +kernel
theorem dX7_chainLength_2 : decode cX7_chainLength 2 = .ok (.iconst 1, 1) := by decide +kernel
theorem dX7_chainLength_3 : decode cX7_chainLength 3 = .ok (.invokevirtual 54, 3) := by decide +kernel
theorem dX7_chainLength_6 : decode cX7_chainLength 6 = .ok (.ifCond .eq 5, 3) := by decide +kernel
theorem dX7_chainLength_9 : decode cX7_chainLength 9 = .ok (.iconst 0, 1) := by decide +kernel
theorem dX7_chainLength_10 : decode cX7_chainLength 10 = .ok (.ireturn, 1) := by decide +kernel
theorem dX7_chainLength_11 : decode cX7_chainLength 11 = .ok (.aload_n 0, 1) := by decide +kernel
theorem dX7_chainLength_12 : decode cX7_chainLength 12 = .ok (.iload_n 1, 1) := by decide +kernel
theorem dX7_chainLength_13 : decode cX7_chainLength 13 = .ok (.invokevirtual 119, 3) := by decide +kernel
theorem dX7_chainLength_16 : decode cX7_chainLength 16 = .ok (.aload_n 0, 1) := by decide +kernel
theorem dX7_chainLength_17 : decode cX7_chainLength 17 = .ok (.getfield 113, 3) := by decide +kernel
theorem dX7_chainLength_20 : decode cX7_chainLength 20 = .ok (.ireturn, 1) := by decide +kernel
set_option maxRecDepth 20000 in
theorem ggX7_successor_X7_noWindow : GoodIn wsX7_successor wsX7_noWindow := goodIn_r _ [6, 7, 8, 9, 5, 10, 11, 12, 13, 14, 15, 16, 17, 18, 19, 20, 1, 21, 22, 23, 24, 25, 26, 27, 28, 29, 30, 31, 32, 33, 34, 35, 36, 37] (by decide +kernel) (by decide +kernel)
set_option maxRecDepth 20000 in
theorem gX7_successor_X7_noWindow : GoodIn wsX7_successor (wsV RX7 123 RX7 yX7_noWindow wsX7_noWindow) := goodIn_app (goodIn_of _ (by decide +kernel)) ggX7_successor_X7_noWindow
theorem dX7_successor_0 : decode cX7_successor 0 = .ok (.aload_n 0, 1) := by decide +kernel
theorem dX7_successor_1 : decode cX7_successor 1 = .ok (.iload_n 1, 1) := by decide +kernel
theorem dX7_successor_2 : decode cX7_successor 2 = .ok (.invokevirtual 123, 3) := by decide +kernel
theorem dX7_successor_5 : decode cX7_successor 5 = .ok (.ifCond .eq 7, 3) := by decide +kernel
theorem dX7_successor_8 : decode cX7_successor 8 = .ok (.iconst 0, 1) := by decide +kernel
theorem dX7_successor_9 : decode cX7_successor 9 = .ok (.goto 7, 3) := by decide +kernel
theorem dX7_successor_12 : decode cX7_successor 12 = .ok (.aload_n 0, 1) := by decide +kernel
theorem dX7_successor_13 : decode cX7_successor 13 = .ok (.getfield 116, 3) := by decide +kernel
theorem dX7_successor_16 : decode cX7_successor 16 = .ok (.ireturn, 1) := by decide +kernel
theorem dJ9_max_f86c9_0 : decode cJ9_max_f86c9 0 = .ok (.lload_n 0, 1) := by decide +kernel
theorem dJ9_max_f86c9_1 : decode cJ9_max_f86c9 1 = .ok (.lload_n 2, 1) := by decide +kernel
theorem dJ9_max_f86c9_2 : decode cJ9_max_f86c9 2 = .ok (.lcmp, 1) := by decide +kernel
theorem dJ9_max_f86c9_3 : decode cJ9_max_f86c9 3 = .ok (.ifCond .lt 7, 3) := by decide +kernel
theorem dJ9_max_f86c9_6 : decode cJ9_max_f86c9 6 = .ok (.lload_n 0, 1) := by decide +kernel
theorem dJ9_max_f86c9_7 : decode cJ9_max_f86c9 7 = .ok (.goto 4, 3) := by decide +kernel
theorem dJ9_max_f86c9_10 : decode cJ9_max_f86c9 10 = .ok (.lload_n 2, 1) := by decide +kernel
theorem dJ9_max_f86c9_11 : decode cJ9_max_f86c9 11 = .ok (.lreturn, 1) := by decide +kernel
theorem dJ9_min_7cf53_0 : decode cJ9_min_7cf53 0 = .ok (.iload_n 0, 1) := by decide +kernel
theorem dJ9_min_7cf53_1 : decode cJ9_min_7cf53 1 = .ok (.iload_n 1, 1) := by decide +kernel
theorem dJ9_min_7cf53_2 : decode cJ9_min_7cf53 2 = .ok (.if_icmp .gt 7, 3) := by decide +kernel
theorem dJ9_min_7cf53_5 : decode cJ9_min_7cf53 5 = .ok (.iload_n 0, 1) := by decide +kernel
theorem dJ9_min_7cf53_6 : decode cJ9_min_7cf53 6 = .ok (.goto 4, 3) := by decide +kernel
theorem dJ9_min_7cf53_9 : decode cJ9_min_7cf53 9 = .ok (.iload_n 1, 1) := by decide +kernel
theorem dJ9_min_7cf53_10 : decode cJ9_min_7cf53 10 = .ok (.ireturn, 1) := by decide +kernel
set_option maxRecDepth 20000 in
theorem ggL_begin_X6_begin : GoodIn wsL_begin wsX6_begin := goodIn_ca (goodIn_r _ [6, 7, 8, 5, 9, 10, 11, 12, 13, 14, 15, 16, 17, 18, 19, 20, 21, 22, 23, 24, 25, 26, 27, 28, 29, 30, 31, 32, 33, 34, 35, 36, 37, 38, 39, 40, 41, 42, 43, 44, 45, 46, 47, 48, 49, 50, 51, 52, 53, 54, 55, 56, 57, 58, 59, 60, 61, 62, 63, 64, 65, 66, 67, 68, 69, 70, 71, 72, 73, 74, 75, 76, 77, 78, 79, 80, 81, 82, 83, 84, 85, 86, 87, 88, 89, 90, 91, 92, 93, 94, 95, 96, 97, 98, 99, 100, 101, 102, 103, 104, 105, 106, 107, 108, 109, 110, 111, 112, 113, 114] (by decide +kernel) (by decide +kernel)) (goodIn_sub (fun _ h => List.mem_cons_of_mem _ (List.mem_append_right _ h)) (by decide +kernel))
set_option maxRecDepth 20000 in
theorem gL_begin_X6_begin : GoodIn wsL_begin (wsV RL 7 RX6 yX6_begin wsX6_begin) := goodIn_app (goodIn_of _ (by decide +kernel)) ggL_begin_X6_begin
theorem dL_begin_0 : decode cL_begin 0 = .ok (.aload_n 0, 1) := by decide +kernel
theorem dL_begin_1 : decode cL_begin 1 = .ok (.iload_n 1, 1) := by decide +kernel
theorem dL_begin_2 : decode cL_begin 2 = .ok (.iload_n 2, 1) := by decide +kernel
theorem dL_begin_3 : decode cL_begin 3 = .ok (.invokevirtual 7, 3) := by decide +kernel
theorem dL_begin_6 : decode cL_begin 6 = .ok (.goto 6, 3) := by decide +kernel
theorem dL_begin_9 : decode cL_begin 9 = .ok (.astore_n 3, 1) := by decide +kernel
theorem dL_begin_10 : decode cL_begin 10 = .ok (.iconst 1, 1) := by decide +kernel
theorem dL_begin_11 : decode cL_begin 11 = .ok (.ireturn, 1) := by decide +kernel
theorem dL_begin_12 : decode cL_begin 12 = .ok (.iconst 0, 1) := by decide +kernel
theorem dL_begin_13 : decode cL_begin 13 = .ok (.ireturn, 1) := by decide +kernel
set_option maxRecDepth 20000 in
theorem ggL_offer_X6_offer : GoodIn wsL_offer wsX6_offer := goodIn_ca (goodIn_ca (goodIn_r _ [7, 8, 9, 10, 11, 6, 12, 13, 14, 15, 16, 17, 18, 19, 20, 21, 22, 23, 24, 25, 26, 27, 28, 29, 30, 31, 32, 33, 34, 35, 36, 37, 38, 39, 40, 41, 42, 43, 44, 45, 46, 47, 48, 49, 50, 51, 52, 53, 54, 55, 56, 57, 58, 59, 60, 61, 62, 63, 64, 65, 66, 67, 68, 69, 70, 71, 72, 73, 74, 75, 76, 77, 78, 79, 80, 81, 82, 83, 84, 85, 86, 87, 88, 89, 90, 91, 92, 93, 94, 95, 96, 97, 98, 99, 100, 101, 102, 103, 104, 105, 106, 107, 108, 109, 110, 111, 112, 113, 114, 115, 116, 117, 118, 119, 120, 121, 122, 123, 124, 125, 126, 127, 128, 129, 130, 131, 132, 133, 134, 135, 136, 137, 138, 139, 140, 141, 142, 143, 144, 145, 146, 147, 148, 149, 150, 151, 152, 153, 154, 155, 156, 157, 158, 159, 160, 161, 162, 163, 164, 165, 166] (by decide +kernel) (by decide +kernel)) (goodIn_sub (fun _ h => List.mem_cons_of_mem _ (List.mem_append_left _ (List.mem_append_right _ h))) (by decide +kernel))) (goodIn_sub (fun _ h => List.mem_cons_of_mem _ (List.mem_append_right _ h)) (by decide +kernel))
set_option maxRecDepth 20000 in
theorem gL_offer_X6_offer : GoodIn wsL_offer (wsV RL 15 RX6 yX6_offer wsX6_offer) := goodIn_app (goodIn_of _ (by decide +kernel)) ggL_offer_X6_offer
theorem dL_offer_0 : decode cL_offer 0 = .ok (.aload 7, 2) := by decide +kernel
theorem dL_offer_2 : decode cL_offer 2 = .ok (.iconst 0, 1) := by decide +kernel
theorem dL_offer_3 : decode cL_offer 3 = .ok (.aload_n 0, 1) := by decide +kernel
theorem dL_offer_4 : decode cL_offer 4 = .ok (.iload_n 1, 1) := by decide +kernel
theorem dL_offer_5 : decode cL_offer 5 = .ok (.iload_n 2, 1) := by decide +kernel
theorem dL_offer_6 : decode cL_offer 6 = .ok (.iload_n 3, 1) := by decide +kernel
theorem dL_offer_7 : decode cL_offer 7 = .ok (.iload 4, 2) := by decide +kernel
theorem dL_offer_9 : decode cL_offer 9 = .ok (.iload 5, 2) := by decide +kernel
theorem dL_offer_11 : decode cL_offer 11 = .ok (.iload 6, 2) := by decide +kernel
theorem dL_offer_13 : decode cL_offer 13 = .ok (.invokevirtual 15, 3) := by decide +kernel
theorem dL_offer_16 : decode cL_offer 16 = .ok (.i2l, 1) := by decide +kernel
theorem dL_offer_17 : decode cL_offer 17 = .ok (.lastore, 1) := by decide +kernel
theorem dL_offer_18 : decode cL_offer 18 = .ok (.goto 11, 3) := by decide +kernel
theorem dL_offer_21 : decode cL_offer 21 = .ok (.astore 8, 2) := by decide +kernel
theorem dL_offer_23 : decode cL_offer 23 = .ok (.iconst 1, 1) := by decide +kernel
theorem dL_offer_24 : decode cL_offer 24 = .ok (.ireturn, 1) := by decide +kernel
theorem dL_offer_25 : decode cL_offer 25 = .ok (.astore 8, 2) := by decide +kernel
theorem dL_offer_27 : decode cL_offer 27 = .ok (.iconst 2, 1) := by decide +kernel
theorem dL_offer_28 : decode cL_offer 28 = .ok (.ireturn, 1) := by decide +kernel
theorem dL_offer_29 : decode cL_offer 29 = .ok (.iconst 0, 1) := by decide +kernel
theorem dL_offer_30 : decode cL_offer 30 = .ok (.ireturn, 1) := by decide +kernel
set_option maxRecDepth 20000 in
theorem ggL_clear_X6_clear : GoodIn wsL_clear wsX6_clear := goodIn_ca (goodIn_r _ [6, 7, 8, 5, 9, 10, 11, 12, 13, 14, 15, 16, 17, 18, 19, 20, 21, 22, 23, 24, 25, 26, 27, 28, 29, 30, 31, 32, 33, 34, 35, 36, 37, 38, 39, 40, 41, 42, 43, 44, 45, 46, 47, 48, 49, 50, 51, 52, 53, 54, 55, 56, 57, 58, 59, 60, 61, 62, 63, 64, 65, 66, 67, 68, 69, 70, 71, 72, 73, 74, 75, 76, 77, 78, 79, 80, 81, 82, 83, 84, 85, 86, 87, 88, 89, 90, 91, 92, 93, 94, 95, 96, 97, 98, 99, 100, 101, 102, 103, 104, 105, 106, 107, 108, 109] (by decide +kernel) (by decide +kernel)) (goodIn_sub (fun _ h => List.mem_cons_of_mem _ (List.mem_append_right _ h)) (by decide +kernel))
set_option maxRecDepth 20000 in
theorem gL_clear_X6_clear : GoodIn wsL_clear (wsV RL 21 RX6 yX6_clear wsX6_clear) := goodIn_app (goodIn_of _ (by decide +kernel)) ggL_clear_X6_clear
theorem dL_clear_0 : decode cL_clear 0 = .ok (.aload_n 2, 1) := by decide +kernel
theorem dL_clear_1 : decode cL_clear 1 = .ok (.iconst 0, 1) := by decide +kernel
theorem dL_clear_2 : decode cL_clear 2 = .ok (.aload_n 0, 1) := by decide +kernel
theorem dL_clear_3 : decode cL_clear 3 = .ok (.iload_n 1, 1) := by decide +kernel
theorem dL_clear_4 : decode cL_clear 4 = .ok (.invokevirtual 21, 3) := by decide +kernel
theorem dL_clear_7 : decode cL_clear 7 = .ok (.i2l, 1) := by decide +kernel
theorem dL_clear_8 : decode cL_clear 8 = .ok (.lastore, 1) := by decide +kernel
theorem dL_clear_9 : decode cL_clear 9 = .ok (.goto 6, 3) := by decide +kernel
theorem dL_clear_12 : decode cL_clear 12 = .ok (.astore_n 3, 1) := by decide +kernel
theorem dL_clear_13 : decode cL_clear 13 = .ok (.iconst 1, 1) := by decide +kernel
theorem dL_clear_14 : decode cL_clear 14 = .ok (.ireturn, 1) := by decide +kernel
theorem dL_clear_15 : decode cL_clear 15 = .ok (.iconst 0, 1) := by decide +kernel
theorem dL_clear_16 : decode cL_clear 16 = .ok (.ireturn, 1) := by decide +kernel
set_option maxRecDepth 20000 in
theorem ggL_offers_X6_offers : GoodIn wsL_offers wsX6_offers := goodIn_ca (goodIn_r _ [6, 7, 8, 9, 10, 5, 11, 12, 13, 14, 15, 16, 17, 18, 19, 20, 21, 22, 23, 24, 25, 26, 27, 28, 29, 30, 31, 32, 33] (by decide +kernel) (by decide +kernel)) (goodIn_sub (fun _ h => List.mem_cons_of_mem _ (List.mem_append_right _ h)) (by decide +kernel))
set_option maxRecDepth 20000 in
theorem gL_offers_X6_offers : GoodIn wsL_offers (wsV RL 25 RX6 yX6_offers wsX6_offers) := goodIn_app (goodIn_of _ (by decide +kernel)) ggL_offers_X6_offers
theorem dL_offers_0 : decode cL_offers 0 = .ok (.aload_n 2, 1) := by decide +kernel
theorem dL_offers_1 : decode cL_offers 1 = .ok (.iconst 0, 1) := by decide +kernel
theorem dL_offers_2 : decode cL_offers 2 = .ok (.aload_n 0, 1) := by decide +kernel
theorem dL_offers_3 : decode cL_offers 3 = .ok (.iload_n 1, 1) := by decide +kernel
theorem dL_offers_4 : decode cL_offers 4 = .ok (.invokevirtual 25, 3) := by decide +kernel
theorem dL_offers_7 : decode cL_offers 7 = .ok (.i2l, 1) := by decide +kernel
theorem dL_offers_8 : decode cL_offers 8 = .ok (.lastore, 1) := by decide +kernel
theorem dL_offers_9 : decode cL_offers 9 = .ok (.goto 6, 3) := by decide +kernel
theorem dL_offers_12 : decode cL_offers 12 = .ok (.astore_n 3, 1) := by decide +kernel
theorem dL_offers_13 : decode cL_offers 13 = .ok (.iconst 1, 1) := by decide +kernel
theorem dL_offers_14 : decode cL_offers 14 = .ok (.ireturn, 1) := by decide +kernel
theorem dL_offers_15 : decode cL_offers 15 = .ok (.iconst 0, 1) := by decide +kernel
theorem dL_offers_16 : decode cL_offers 16 = .ok (.ireturn, 1) := by decide +kernel
set_option maxRecDepth 20000 in
theorem ggL_exactWeight_X6_exactWeight : GoodIn wsL_exactWeight wsX6_exactWeight := goodIn_ca (goodIn_r _ [6, 7, 8, 9, 10, 5, 11, 12, 13, 14, 15, 16, 17, 18, 19, 20, 21, 22, 23, 24, 25, 26, 27, 28, 29, 30, 31, 32, 33, 34, 35, 36, 37, 38, 39, 40, 41, 42, 43, 44] (by decide +kernel) (by decide +kernel)) (goodIn_sub (fun _ h => List.mem_cons_of_mem _ (List.mem_append_right _ h)) (by decide +kernel))
set_option maxRecDepth 20000 in
theorem gL_exactWeight_X6_exactWeight : GoodIn wsL_exactWeight (wsV RL 28 RX6 yX6_exactWeight wsX6_exactWeight) := goodIn_app (goodIn_of _ (by decide +kernel)) ggL_exactWeight_X6_exactWeight
theorem dL_exactWeight_0 : decode cL_exactWeight 0 = .ok (.aload_n 3, 1) := by decide +kernel
theorem dL_exactWeight_1 : decode cL_exactWeight 1 = .ok (.iconst 0, 1) := by decide +kernel
theorem dL_exactWeight_2 : decode cL_exactWeight 2 = .ok (.aload_n 0, 1) := by decide +kernel
theorem dL_exactWeight_3 : decode cL_exactWeight 3 = .ok (.iload_n 1, 1) := by decide +kernel
theorem dL_exactWeight_4 : decode cL_exactWeight 4 = .ok (.iload_n 2, 1) := by decide +kernel
theorem dL_exactWeight_5 : decode cL_exactWeight 5 = .ok (.invokevirtual 28, 3) := by decide +kernel
theorem dL_exactWeight_8 : decode cL_exactWeight 8 = .ok (.i2l, 1) := by decide +kernel
theorem dL_exactWeight_9 : decode cL_exactWeight 9 = .ok (.lastore, 1) := by decide +kernel
theorem dL_exactWeight_10 : decode cL_exactWeight 10 = .ok (.goto 7, 3) := by decide +kernel
theorem dL_exactWeight_13 : decode cL_exactWeight 13 = .ok (.astore 4, 2) := by decide +kernel
theorem dL_exactWeight_15 : decode cL_exactWeight 15 = .ok (.iconst 1, 1) := by decide +kernel
theorem dL_exactWeight_16 : decode cL_exactWeight 16 = .ok (.ireturn, 1) := by decide +kernel
theorem dL_exactWeight_17 : decode cL_exactWeight 17 = .ok (.iconst 0, 1) := by decide +kernel
theorem dL_exactWeight_18 : decode cL_exactWeight 18 = .ok (.ireturn, 1) := by decide +kernel
set_option maxRecDepth 20000 in
theorem ggL_reservoirSize_X6_reservoirSize : GoodIn wsL_reservoirSize wsX6_reservoirSize := goodIn_ca (goodIn_r _ [6, 7, 8, 5, 9, 10, 11, 12, 13, 14, 15, 16, 17, 18, 19, 20, 21, 22, 23, 24, 25, 26, 27, 28, 29, 30, 31, 32, 33, 34, 35, 36, 37, 38, 39, 40, 41, 42, 43, 44, 45, 46, 47, 48] (by decide +kernel) (by decide +kernel)) (goodIn_sub (fun _ h => List.mem_cons_of_mem _ (List.mem_append_right _ h)) (by decide +kernel))
set_option maxRecDepth 20000 in
theorem gL_reservoirSize_X6_reservoirSize : GoodIn wsL_reservoirSize (wsV RL 32 RX6 yX6_reservoirSize wsX6_reservoirSize) := goodIn_app (goodIn_of _ (by decide +kernel)) ggL_reservoirSize_X6_reservoirSize
theorem dL_reservoirSize_0 : decode cL_reservoirSize 0 = .ok (.aload_n 2, 1) := by decide +kernel
theorem dL_reservoirSize_1 : decode cL_reservoirSize 1 = .ok (.iconst 0, 1) := by decide +kernel
theorem dL_reservoirSize_2 : decode cL_reservoirSize 2 = .ok (.aload_n 0, 1) := by decide +kernel
theorem dL_reservoirSize_3 : decode cL_reservoirSize 3 = .ok (.iload_n 1, 1) := by decide +kernel
theorem dL_reservoirSize_4 : decode cL_reservoirSize 4 = .ok (.invokevirtual 32, 3) := by decide +kernel
theorem dL_reservoirSize_7 : decode cL_reservoirSize 7 = .ok (.i2l, 1) := by decide +kernel
theorem dL_reservoirSize_8 : decode cL_reservoirSize 8 = .ok (.lastore, 1) := by decide +kernel
theorem dL_reservoirSize_9 : decode cL_reservoirSize 9 = .ok (.goto 6, 3) := by decide +kernel
theorem dL_reservoirSize_12 : decode cL_reservoirSize 12 = .ok (.astore_n 3, 1) := by decide +kernel
theorem dL_reservoirSize_13 : decode cL_reservoirSize 13 = .ok (.iconst 1, 1) := by decide +kernel
theorem dL_reservoirSize_14 : decode cL_reservoirSize 14 = .ok (.ireturn, 1) := by decide +kernel
theorem dL_reservoirSize_15 : decode cL_reservoirSize 15 = .ok (.iconst 0, 1) := by decide +kernel
theorem dL_reservoirSize_16 : decode cL_reservoirSize 16 = .ok (.ireturn, 1) := by decide +kernel
set_option maxRecDepth 20000 in
theorem ggL_reservoirItem_X6_reservoirItem : GoodIn wsL_reservoirItem wsX6_reservoirItem := goodIn_ca (goodIn_ca (goodIn_r _ [7, 8, 9, 6, 10, 11, 12, 13, 14, 15, 16, 17, 18, 19, 20, 21, 22, 23, 24, 25, 26, 27, 28, 29, 30, 31, 32, 33, 34, 35, 36, 37, 38, 39, 40, 41, 42, 43, 44, 45, 46, 47, 48, 49, 50, 51, 52, 53, 54, 55, 56, 57] (by decide +kernel) (by decide +kernel)) (goodIn_sub (fun _ h => List.mem_cons_of_mem _ (List.mem_append_left _ (List.mem_append_right _ h))) (by decide +kernel))) (goodIn_sub (fun _ h => List.mem_cons_of_mem _ (List.mem_append_right _ h)) (by decide +kernel))
set_option maxRecDepth 20000 in
theorem gL_reservoirItem_X6_reservoirItem : GoodIn wsL_reservoirItem (wsV RL 35 RX6 yX6_reservoirItem wsX6_reservoirItem) := goodIn_app (goodIn_of _ (by decide +kernel)) ggL_reservoirItem_X6_reservoirItem
theorem dL_reservoirItem_0 : decode cL_reservoirItem 0 = .ok (.aload_n 3, 1) := by decide +kernel
theorem dL_reservoirItem_1 : decode cL_reservoirItem 1 = .ok (.iconst 0, 1) := by decide +kernel
theorem dL_reservoirItem_2 : decode cL_reservoirItem 2 = .ok (.aload_n 0, 1) := by decide +kernel
theorem dL_reservoirItem_3 : decode cL_reservoirItem 3 = .ok (.iload_n 1, 1) := by decide +kernel
theorem dL_reservoirItem_4 : decode cL_reservoirItem 4 = .ok (.iload_n 2, 1) := by decide +kernel
theorem dL_reservoirItem_5 : decode cL_reservoirItem 5 = .ok (.invokevirtual 35, 3) := by decide +kernel
theorem dL_reservoirItem_8 : decode cL_reservoirItem 8 = .ok (.i2l, 1) := by decide +kernel
theorem dL_reservoirItem_9 : decode cL_reservoirItem 9 = .ok (.lastore, 1) := by decide +kernel
theorem dL_reservoirItem_10 : decode cL_reservoirItem 10 = .ok (.goto 11, 3) := by decide +kernel
theorem dL_reservoirItem_13 : decode cL_reservoirItem 13 = .ok (.astore 4, 2) := by decide +kernel
theorem dL_reservoirItem_15 : decode cL_reservoirItem 15 = .ok (.iconst 1, 1) := by decide +kernel
theorem dL_reservoirItem_16 : decode cL_reservoirItem 16 = .ok (.ireturn, 1) := by decide +kernel
theorem dL_reservoirItem_17 : decode cL_reservoirItem 17 = .ok (.astore 4, 2) := by decide +kernel
theorem dL_reservoirItem_19 : decode cL_reservoirItem 19 = .ok (.iconst 2, 1) := by decide +kernel
theorem dL_reservoirItem_20 : decode cL_reservoirItem 20 = .ok (.ireturn, 1) := by decide +kernel
theorem dL_reservoirItem_21 : decode cL_reservoirItem 21 = .ok (.iconst 0, 1) := by decide +kernel
theorem dL_reservoirItem_22 : decode cL_reservoirItem 22 = .ok (.ireturn, 1) := by decide +kernel
set_option maxRecDepth 20000 in
theorem ggL_reservoirPosition_X6_reservoirPosition : GoodIn wsL_reservoirPosition wsX6_reservoirPosition := goodIn_ca (goodIn_ca (goodIn_r _ [7, 8, 9, 6, 10, 11, 12, 13, 14, 15, 16, 17, 18, 19, 20, 21, 22, 23, 24, 25, 26, 27, 28, 29, 30, 31, 32, 33, 34, 35, 36, 37, 38, 39, 40, 41, 42, 43, 44, 45, 46, 47, 48, 49, 50, 51, 52, 53, 54, 55, 56, 57] (by decide +kernel) (by decide +kernel)) (goodIn_sub (fun _ h => List.mem_cons_of_mem _ (List.mem_append_left _ (List.mem_append_right _ h))) (by decide +kernel))) (goodIn_sub (fun _ h => List.mem_cons_of_mem _ (List.mem_append_right _ h)) (by decide +kernel))
set_option maxRecDepth 20000 in
theorem gL_reservoirPosition_X6_reservoirPosition : GoodIn wsL_reservoirPosition (wsV RL 40 RX6 yX6_reservoirPosition wsX6_reservoirPosition) := goodIn_app (goodIn_of _ (by decide +kernel)) ggL_reservoirPosition_X6_reservoirPosition
theorem dL_reservoirPosition_0 : decode cL_reservoirPosition 0 = .ok (.aload_n 3, 1) := by decide +kernel
theorem dL_reservoirPosition_1 : decode cL_reservoirPosition 1 = .ok (.iconst 0, 1) := by decide +kernel
theorem dL_reservoirPosition_2 : decode cL_reservoirPosition 2 = .ok (.aload_n 0, 1) := by decide +kernel
theorem dL_reservoirPosition_3 : decode cL_reservoirPosition 3 = .ok (.iload_n 1, 1) := by decide +kernel
theorem dL_reservoirPosition_4 : decode cL_reservoirPosition 4 = .ok (.iload_n 2, 1) := by decide +kernel
theorem dL_reservoirPosition_5 : decode cL_reservoirPosition 5 = .ok (.invokevirtual 40, 3) := by decide +kernel
theorem dL_reservoirPosition_8 : decode cL_reservoirPosition 8 = .ok (.i2l, 1) := by decide +kernel
theorem dL_reservoirPosition_9 : decode cL_reservoirPosition 9 = .ok (.lastore, 1) := by decide +kernel
theorem dL_reservoirPosition_10 : decode cL_reservoirPosition 10 = .ok (.goto 11, 3) := by decide +kernel
theorem dL_reservoirPosition_13 : decode cL_reservoirPosition 13 = .ok (.astore 4, 2) := by decide +kernel
theorem dL_reservoirPosition_15 : decode cL_reservoirPosition 15 = .ok (.iconst 1, 1) := by decide +kernel
theorem dL_reservoirPosition_16 : decode cL_reservoirPosition 16 = .ok (.ireturn, 1) := by decide +kernel
theorem dL_reservoirPosition_17 : decode cL_reservoirPosition 17 = .ok (.astore 4, 2) := by decide +kernel
theorem dL_reservoirPosition_19 : decode cL_reservoirPosition 19 = .ok (.iconst 2, 1) := by decide +kernel
theorem dL_reservoirPosition_20 : decode cL_reservoirPosition 20 = .ok (.ireturn, 1) := by decide +kernel
theorem dL_reservoirPosition_21 : decode cL_reservoirPosition 21 = .ok (.iconst 0, 1) := by decide +kernel
theorem dL_reservoirPosition_22 : decode cL_reservoirPosition 22 = .ok (.ireturn, 1) := by decide +kernel
set_option maxRecDepth 20000 in
theorem ggL_groupOffers_X6_groupOffers : GoodIn wsL_groupOffers wsX6_groupOffers := goodIn_ca (goodIn_r _ [6, 7, 8, 5, 9, 10, 11, 12, 13, 14, 15, 16, 17, 18, 19, 20, 21, 22, 23, 24, 25, 26, 27, 28, 29, 30, 31, 32, 33, 34, 35, 36, 37, 38, 39, 40, 41, 42, 43, 44, 45, 46, 47, 48] (by decide +kernel) (by decide +kernel)) (goodIn_sub (fun _ h => List.mem_cons_of_mem _ (List.mem_append_right _ h)) (by decide +kernel))
set_option maxRecDepth 20000 in
theorem gL_groupOffers_X6_groupOffers : GoodIn wsL_groupOffers (wsV RL 43 RX6 yX6_groupOffers wsX6_groupOffers) := goodIn_app (goodIn_of _ (by decide +kernel)) ggL_groupOffers_X6_groupOffers
theorem dL_groupOffers_0 : decode cL_groupOffers 0 = .ok (.aload_n 3, 1) := by decide +kernel
theorem dL_groupOffers_1 : decode cL_groupOffers 1 = .ok (.iconst 0, 1) := by decide +kernel
theorem dL_groupOffers_2 : decode cL_groupOffers 2 = .ok (.aload_n 0, 1) := by decide +kernel
theorem dL_groupOffers_3 : decode cL_groupOffers 3 = .ok (.iload_n 1, 1) := by decide +kernel
theorem dL_groupOffers_4 : decode cL_groupOffers 4 = .ok (.iload_n 2, 1) := by decide +kernel
theorem dL_groupOffers_5 : decode cL_groupOffers 5 = .ok (.invokevirtual 43, 3) := by decide +kernel
theorem dL_groupOffers_8 : decode cL_groupOffers 8 = .ok (.i2l, 1) := by decide +kernel
theorem dL_groupOffers_9 : decode cL_groupOffers 9 = .ok (.lastore, 1) := by decide +kernel
theorem dL_groupOffers_10 : decode cL_groupOffers 10 = .ok (.goto 7, 3) := by decide +kernel
theorem dL_groupOffers_13 : decode cL_groupOffers 13 = .ok (.astore 4, 2) := by decide +kernel
theorem dL_groupOffers_15 : decode cL_groupOffers 15 = .ok (.iconst 1, 1) := by decide +kernel
theorem dL_groupOffers_16 : decode cL_groupOffers 16 = .ok (.ireturn, 1) := by decide +kernel
theorem dL_groupOffers_17 : decode cL_groupOffers 17 = .ok (.iconst 0, 1) := by decide +kernel
theorem dL_groupOffers_18 : decode cL_groupOffers 18 = .ok (.ireturn, 1) := by decide +kernel
set_option maxRecDepth 20000 in
theorem ggL_groupItem_X6_groupItem : GoodIn wsL_groupItem wsX6_groupItem := goodIn_ca (goodIn_ca (goodIn_r _ [7, 8, 9, 6, 10, 11, 12, 13, 14, 15, 16, 17, 18, 19, 20, 21, 22, 23, 24, 25, 26, 27, 28, 29, 30, 31, 32, 33, 34, 35, 36, 37, 38, 39, 40, 41, 42, 43, 44, 45, 46, 47, 48, 49, 50, 51, 52, 53, 54, 55, 56, 57, 58, 59, 60, 61, 62, 63, 64, 65, 66, 67, 68] (by decide +kernel) (by decide +kernel)) (goodIn_sub (fun _ h => List.mem_cons_of_mem _ (List.mem_append_left _ (List.mem_append_right _ h))) (by decide +kernel))) (goodIn_sub (fun _ h => List.mem_cons_of_mem _ (List.mem_append_right _ h)) (by decide +kernel))
set_option maxRecDepth 20000 in
theorem gL_groupItem_X6_groupItem : GoodIn wsL_groupItem (wsV RL 46 RX6 yX6_groupItem wsX6_groupItem) := goodIn_app (goodIn_of _ (by decide +kernel)) ggL_groupItem_X6_groupItem
theorem dL_groupItem_0 : decode cL_groupItem 0 = .ok (.aload 4, 2) := by decide +kernel
theorem dL_groupItem_2 : decode cL_groupItem 2 = .ok (.iconst 0, 1) := by decide +kernel
theorem dL_groupItem_3 : decode cL_groupItem 3 = .ok (.aload_n 0, 1) := by decide +kernel
theorem dL_groupItem_4 : decode cL_groupItem 4 = .ok (.iload_n 1, 1) := by decide +kernel
theorem dL_groupItem_5 : decode cL_groupItem 5 = .ok (.iload_n 2, 1) := by decide +kernel
theorem dL_groupItem_6 : decode cL_groupItem 6 = .ok (.iload_n 3, 1) := by decide +kernel
theorem dL_groupItem_7 : decode cL_groupItem 7 = .ok (.invokevirtual 46, 3) := by decide +kernel
theorem dL_groupItem_10 : decode cL_groupItem 10 = .ok (.i2l, 1) := by decide +kernel
theorem dL_groupItem_11 : decode cL_groupItem 11 = .ok (.lastore, 1) := by decide +kernel
theorem dL_groupItem_12 : decode cL_groupItem 12 = .ok (.goto 11, 3) := by decide +kernel
theorem dL_groupItem_15 : decode cL_groupItem 15 = .ok (.astore 5, 2) := by decide +kernel
theorem dL_groupItem_17 : decode cL_groupItem 17 = .ok (.iconst 1, 1) := by decide +kernel
theorem dL_groupItem_18 : decode cL_groupItem 18 = .ok (.ireturn, 1) := by decide +kernel
theorem dL_groupItem_19 : decode cL_groupItem 19 = .ok (.astore 5, 2) := by decide +kernel
theorem dL_groupItem_21 : decode cL_groupItem 21 = .ok (.iconst 2, 1) := by decide +kernel
theorem dL_groupItem_22 : decode cL_groupItem 22 = .ok (.ireturn, 1) := by decide +kernel
theorem dL_groupItem_23 : decode cL_groupItem 23 = .ok (.iconst 0, 1) := by decide +kernel
theorem dL_groupItem_24 : decode cL_groupItem 24 = .ok (.ireturn, 1) := by decide +kernel
set_option maxRecDepth 20000 in
theorem ggL_prioritySize_X6_prioritySize : GoodIn wsL_prioritySize wsX6_prioritySize := goodIn_ca (goodIn_r _ [6, 7, 8, 5, 9, 10, 11, 12, 13, 14, 15, 16, 17, 18, 19, 20, 21, 22, 23, 24, 25, 26, 27, 28, 29, 30, 31, 32, 33, 34, 35, 36, 37, 38, 39, 40, 41, 42, 43, 44, 45, 46, 47, 48, 49, 50, 51, 52, 53, 54, 55, 56, 57, 58, 59, 60, 61, 62, 63, 64, 65, 66, 67, 68, 69, 70, 71, 72, 73, 74, 75, 76, 77, 78, 79, 80, 81, 82, 83, 84, 85, 86, 87, 88] (by decide +kernel) (by decide +kernel)) (goodIn_sub (fun _ h => List.mem_cons_of_mem _ (List.mem_append_right _ h)) (by decide +kernel))
set_option maxRecDepth 20000 in
theorem gL_prioritySize_X6_prioritySize : GoodIn wsL_prioritySize (wsV RL 50 RX6 yX6_prioritySize wsX6_prioritySize) := goodIn_app (goodIn_of _ (by decide +kernel)) ggL_prioritySize_X6_prioritySize
theorem dL_prioritySize_0 : decode cL_prioritySize 0 = .ok (.aload_n 2, 1) := by decide +kernel
theorem dL_prioritySize_1 : decode cL_prioritySize 1 = .ok (.iconst 0, 1) := by decide +kernel
theorem dL_prioritySize_2 : decode cL_prioritySize 2 = .ok (.aload_n 0, 1) := by decide +kernel
theorem dL_prioritySize_3 : decode cL_prioritySize 3 = .ok (.iload_n 1, 1) := by decide +kernel
theorem dL_prioritySize_4 : decode cL_prioritySize 4 = .ok (.invokevirtual 50, 3) := by decide +kernel
theorem dL_prioritySize_7 : decode cL_prioritySize 7 = .ok (.i2l, 1) := by decide +kernel
theorem dL_prioritySize_8 : decode cL_prioritySize 8 = .ok (.lastore, 1) := by decide +kernel
theorem dL_prioritySize_9 : decode cL_prioritySize 9 = .ok (.goto 6, 3) := by decide +kernel
theorem dL_prioritySize_12 : decode cL_prioritySize 12 = .ok (.astore_n 3, 1) := by decide +kernel
theorem dL_prioritySize_13 : decode cL_prioritySize 13 = .ok (.iconst 1, 1) := by decide +kernel
theorem dL_prioritySize_14 : decode cL_prioritySize 14 = .ok (.ireturn, 1) := by decide +kernel
theorem dL_prioritySize_15 : decode cL_prioritySize 15 = .ok (.iconst 0, 1) := by decide +kernel
theorem dL_prioritySize_16 : decode cL_prioritySize 16 = .ok (.ireturn, 1) := by decide +kernel
set_option maxRecDepth 20000 in
theorem ggL_priorityItem_X6_priorityItem : GoodIn wsL_priorityItem wsX6_priorityItem := goodIn_ca (goodIn_ca (goodIn_r _ [7, 8, 9, 6, 10, 11, 12, 13, 14, 15, 16, 17, 18, 19, 20, 21, 22, 23, 24, 25, 26, 27, 28, 29, 30, 31, 32, 33, 34, 35, 36, 37, 38, 39, 40, 41, 42, 43, 44, 45, 46, 47, 48, 49, 50, 51, 52, 53, 54, 55, 56, 57, 58, 59, 60, 61, 62, 63, 64, 65, 66, 67, 68, 69, 70, 71, 72, 73, 74, 75, 76, 77, 78, 79, 80, 81, 82, 83, 84, 85, 86, 87, 88, 89, 90, 91, 92, 93, 94] (by decide +kernel) (by decide +kernel)) (goodIn_sub (fun _ h => List.mem_cons_of_mem _ (List.mem_append_left _ (List.mem_append_right _ h))) (by decide +kernel))) (goodIn_sub (fun _ h => List.mem_cons_of_mem _ (List.mem_append_right _ h)) (by decide +kernel))
set_option maxRecDepth 20000 in
theorem gL_priorityItem_X6_priorityItem : GoodIn wsL_priorityItem (wsV RL 53 RX6 yX6_priorityItem wsX6_priorityItem) := goodIn_app (goodIn_of _ (by decide +kernel)) ggL_priorityItem_X6_priorityItem
theorem dL_priorityItem_0 : decode cL_priorityItem 0 = .ok (.aload_n 3, 1) := by decide +kernel
theorem dL_priorityItem_1 : decode cL_priorityItem 1 = .ok (.iconst 0, 1) := by decide +kernel
theorem dL_priorityItem_2 : decode cL_priorityItem 2 = .ok (.aload_n 0, 1) := by decide +kernel
theorem dL_priorityItem_3 : decode cL_priorityItem 3 = .ok (.iload_n 1, 1) := by decide +kernel
theorem dL_priorityItem_4 : decode cL_priorityItem 4 = .ok (.iload_n 2, 1) := by decide +kernel
theorem dL_priorityItem_5 : decode cL_priorityItem 5 = .ok (.invokevirtual 53, 3) := by decide +kernel
theorem dL_priorityItem_8 : decode cL_priorityItem 8 = .ok (.i2l, 1) := by decide +kernel
theorem dL_priorityItem_9 : decode cL_priorityItem 9 = .ok (.lastore, 1) := by decide +kernel
theorem dL_priorityItem_10 : decode cL_priorityItem 10 = .ok (.goto 11, 3) := by decide +kernel
theorem dL_priorityItem_13 : decode cL_priorityItem 13 = .ok (.astore 4, 2) := by decide +kernel
theorem dL_priorityItem_15 : decode cL_priorityItem 15 = .ok (.iconst 1, 1) := by decide +kernel
theorem dL_priorityItem_16 : decode cL_priorityItem 16 = .ok (.ireturn, 1) := by decide +kernel
theorem dL_priorityItem_17 : decode cL_priorityItem 17 = .ok (.astore 4, 2) := by decide +kernel
theorem dL_priorityItem_19 : decode cL_priorityItem 19 = .ok (.iconst 2, 1) := by decide +kernel
theorem dL_priorityItem_20 : decode cL_priorityItem 20 = .ok (.ireturn, 1) := by decide +kernel
theorem dL_priorityItem_21 : decode cL_priorityItem 21 = .ok (.iconst 0, 1) := by decide +kernel
end
section
abbrev vwCl : List vw_C := [(RX0, TX0, 6), (RX1, TX1, 4), (RX2, TX2, 2), (RX3, TX3, 6), (RX4, TX4, 4), (RX5, TX5, 11), (RX6, TX6, 5), (RX7, TX7, 13)]
/-! what every contract carries, and call rows of our own: readers (heap kept), writers (world for world), throwers -/
abbrev GT : Type := va_G × ClassId × ClassId × ClassId
def gTys (G : GT) : List (ClassId × FieldType) := [(G.2.1, .int), (G.2.2.1, .boolean), (G.2.2.2, .long)]
def isNw : Cond → Bool
  | .fieldLinkNest .. => true
  | .methodLinkNest .. => true
  | .castable .. => true
  | _ => false
def nwL : List Cond := [.fieldLinkNest RX6 108 RX3 "items" "[I" RX6,
  .fieldLinkNest RX6 128 RX1 "held" "I" RX6,
  .fieldLinkNest RX6 131 RX1 "items" "[I" RX6,
  .fieldLinkNest RX6 132 RX1 "times" "[I" RX6,
  .fieldLinkNest RX6 138 RX5 "chain" "LReservoirReed$Chain;" RX6,
  .fieldLinkNest RX6 142 RX0 "items" "[I" RX6,
  .fieldLinkNest RX6 145 RX0 "start" "I" RX6,
  .fieldLinkNest RX6 148 RX0 "positions" "[I" RX6,
  .fieldLinkNest RX6 152 RX0 "awaited" "I" RX6,
  .fieldLinkNest RX6 159 RX5 "priorities" "LReservoirReed$Priorities;" RX6,
  .fieldLinkNest RX6 169 RX5 "distinct" "LReservoirReed$Distinct;" RX6,
  .fieldLinkNest RX6 49 RX5 "taken" "I" RX6,
  .fieldLinkNest RX6 68 RX2 "weight" "I" RX6,
  .fieldLinkNest RX6 73 RX5 "reservoir" "LReservoirReed$Reservoir;" RX6,
  .fieldLinkNest RX6 86 RX4 "items" "[I" RX6,
  .fieldLinkNest RX6 94 RX4 "positions" "[I" RX6,
  .fieldLinkNest RX6 97 RX2 "reservoir" "LReservoirReed$Reservoir;" RX6,
  .fieldLinkNest RX6 98 RX4 "given" "I" RX6,
  .methodLinkNest RX6 21 yX3_init RX6,
  .methodLinkNest RX6 28 yX1_init RX6,
  .methodLinkNest RX6 9 yX5_init RX6,
  .methodLinkNest RX0 37 yX6_remainder RX6,
  .methodLinkNest RX0 44 yX6_at RX6,
  .methodLinkNest RX0 48 yX6_put RX6,
  .methodLinkNest RX1 25 yX6_at RX6,
  .methodLinkNest RX1 37 yX6_put RX6,
  .methodLinkNest RX1 47 yX6_insert RX6,
  .methodLinkNest RX1 59 yX6_quotient RX6,
  .methodLinkNest RX2 9 yX4_init RX6,
  .methodLinkNest RX3 31 yX6_at RX6,
  .methodLinkNest RX3 48 yX6_insert RX6,
  .methodLinkNest RX3 56 yX6_quotient RX6,
  .methodLinkNest RX4 25 yX6_remainder RX6,
  .methodLinkNest RX4 29 yX6_put RX6,
  .methodLinkNest RX5 18 yX2_init RX6,
  .methodLinkNest RX5 34 yX3_init RX6,
  .methodLinkNest RX5 41 yX1_init RX6,
  .methodLinkNest RX5 48 yX0_init RX6,
  .methodLinkNest RX5 9 yX4_init RX6,
  .castable "java/lang/IllegalArgumentException" "java/lang/IllegalArgumentException",
  .castable "java/lang/IllegalStateException" "java/lang/IllegalStateException",
  .castable "java/lang/IndexOutOfBoundsException" "java/lang/IndexOutOfBoundsException"]
theorem nwL_ok : ∀ w ∈ nwL, isNw w = true := by decide +kernel
theorem nw_warm {w : Cond} (h : isNw w = true) {s U : State} (hW : s.WarmedH U.vm) (hZ : va_Nw w s) : va_Nw w U := by
  cases w <;> first | exact va_Nw.warmF hW hZ | exact va_Nw.warmM hW hZ | exact va_Nw.warmC hW hZ | exact absurd h Bool.false_ne_true
theorem nw_same {w : Cond} (h : isNw w = true) {u U : State} (hv : u.vm = U.vm) (hZ : va_Nw w u) : va_Nw w U := by
  cases w <;> first | exact va_Nw.same rfl hv hZ | exact absurd h Bool.false_ne_true
def ncL : List (String × String) := [("java/lang/IllegalStateException", "java/lang/IllegalArgumentException"), ("java/lang/IndexOutOfBoundsException", "java/lang/IllegalArgumentException")]
def stL : List (Nat × String) := [(178, "an argument is out of range"), (185, "the call is not possible now"), (190, "there is no such place or slot")]
/-- the tables' words that aren't good ones, the classes, the array classes, the texts -/
def Sy (G : GT) (U : State) : Prop := va_K G.1 vwCl (gTys G) U ∧ (∀ w ∈ nwL, va_Nw w U) ∧ (∀ q ∈ ncL, va_Nc q.1 q.2 U) ∧ (∀ q ∈ stL, ∃ a, vk_R RX6 q.1 q.2 a U)
theorem Sy.warm {G : GT} {s U : State} (hW : s.WarmedH U.vm) (h : Sy G s) : Sy G U :=
  ⟨va_K.moved hW.alike h.1, fun w hw => nw_warm (nwL_ok w hw) hW (h.2.1 w hw), fun q hq => va_Nc.moved hW.alike (h.2.2.1 q hq), fun q hq => by
    obtain ⟨a, ha⟩ := h.2.2.2 q hq
    exact ⟨a, vk_R.warm hW ha⟩⟩
theorem Sy.same {G : GT} {s U : State} (hv : s.vm = U.vm) (h : Sy G s) : Sy G U := Sy.warm (by rw [← hv]; exact State.WarmedH.refl s) h
/-- an array class is the one of its name -/
theorem Sy.cls {G : GT} {s : State} {cA cB : ClassId} {ty : FieldType} {t1 t2 : List (ClassId × FieldType)} (h1 : va_K G.1 vwCl t1 s) (h2 : va_K G.1 vwCl t2 s) {i j : Nat} (hi : t1[i]? = some (cA, ty)) (hj : t2[j]? = some (cB, ty)) (hty : ty = .int ∨ ty = .boolean ∨ ty = .long) : cA = cB := by
  have a := (h1.2 i _ hi).2
  have b := (h2.2 j _ hj).2
  rcases hty with rfl | rfl | rfl <;> exact Option.some.inj ((show s.vm.findClass _ = some cA from a).symm.trans b)
section BASE
variable {p : Program} {l : Launch} {e : Env} {R : Room} {s : State} {m : MethodId} {args : Array Value} {below : List Frame} {meth : Method} {c : Code} {H : Heap} {locs : List Loc} {cells slots : Nat} {Q : State → Prop}
variable {y : MethodName} {bytes cc : ByteArray} {maxL nL n index pc ci N : Nat} {ret : Option FieldType} {wy : List Cond} {rm : Room} {Ts : List Cond} {own C host : String} {b : Addr} {As rest st0 av : List Value} {ls : Array Slot} {G : GT} {w0 w1 wa wc wb : va_W} {fs : List Value} {T : u_T} {v : Value} {ov : Option Value} {A : Nat → Prop} {H0 : Heap}
/-! ### readers: the heap stays, the answer is told -/
def RQ (v : Value) : Array Value → State → Outcome → State → Prop := fun _ st o t => o = .returned (some v) ∧ t.heap = st.heap
abbrev RPc (G : GT) (w0 : va_W) (av : List Value) : Array Value → State → Prop := va_Pc av (fun U => va_P G.1 vwCl w0 U.heap ∧ Sy G U)
abbrev Rd (l : Launch) (y : MethodName) (wy : List Cond) (rm : Room) (G : GT) (w0 : va_W) (av : List Value) (v : Value) : Prop := Met l y wy rm (RPc G w0 av) (RQ v) 0 0 (fun _ => False)
theorem RPc.blind : FrameBlind (RPc G w0 av) := fun a U g mk q => ⟨q.1, q.2.1, Sy.same (s := U) rfl q.2.2⟩
theorem RPc.at (hP : va_P G.1 vwCl w0 H) (hY : Sy G s) : ∀ U : State, U.heap = H → s.WarmedH U.vm → RPc G w0 av av.toArray U := fun U hU hW => ⟨rfl, by rw [hU]; exact hP, Sy.warm hW hY⟩
theorem rd_go {a : Array Value} (hr : va_Run p l e R s m args below meth c H locs cells slots 0 0 (F0 m pc ls st0) rest (RQ v a) (fun _ => False))
    (kk : W p l e R s m args below meth c H locs cells slots Q (F0 m (pc + 3) ls (v :: rest))) : W p l e R s m args below meth c H locs cells slots Q (F0 m pc ls st0) := by
  intro T hT X
  obtain ⟨v', st₀, t, T', L, h0, X', hL, e1, e2, ⟨hv, hh⟩, st⟩ := hr T hT X
  cases hv
  obtain ⟨t2, a1, b1⟩ := kk T' (by rw [e1, hh, h0]) (Stand.forget X' (fun q h => (hL q h).elim))
  exact ⟨t2, st t2 a1, b1⟩
theorem rv_of (hY : Sy G s) (hP : va_P G.1 vwCl w0 H) (hw0 : w0[0]? = some (b, .inr (ci, fs))) (hc : vwCl[ci]? = some (C, T, N)) : ∃ cell : Cell, H[b]? = some cell ∧ cell.vm.isStatics = false ∧ s.vm.findClass C = some cell.cls := va_recv (q := (C, T, N)) hY.1 hP hc hw0
theorem rdV (CF : CallFix p m c cc nL s args Ts own) (hM : Rd l y wy rm G w0 (.ref b :: As) v) (cw : CallW R s args own C index y bytes maxL ret wy rm 0 0 n) (hP : va_P G.1 vwCl w0 H) (hY : Sy G s) (hw0 : w0[0]? = some (b, .inr (ci, fs))) (hc : vwCl[ci]? = some (C, T, N))
    (hn : As.length = n) (hsz : ls.size = nL) (hst : st0 = As.reverse ++ .ref b :: rest) (hW : 2 * (F0 m pc ls st0).monitorRoom + (rest.map fun v => v.category).sum ≤ 8) (hdg : decode cc pc = .ok (.invokevirtual index, 3)) (hf : cells ≤ R.cells ∧ slots ≤ R.slots)
    (kk : W p l e R s m args below meth c H locs cells slots Q (F0 m (pc + 3) ls (v :: rest))) : W p l e R s m args below meth c H locs cells slots Q (F0 m pc ls st0) :=
  rd_go (va_runV CF hM cw ⟨RPc.blind, rv_of hY hP hw0 hc, RPc.at hP hY⟩ rfl hn hsz hst hW hdg hf) kk
theorem rdVN (CF : CallFix p m c cc nL s args Ts own) (hM : Rd l y wy rm G w0 (.ref b :: As) v) (cw : va_CN R s args own index y host bytes maxL ret wy rm 0 0 n ∧ (Cond.instanceMethod y).before args s = true ∧ (Cond.selects C y y).before args s = true) (hP : va_P G.1 vwCl w0 H) (hY : Sy G s) (hw0 : w0[0]? = some (b, .inr (ci, fs))) (hc : vwCl[ci]? = some (C, T, N))
    (hn : As.length = n) (hsz : ls.size = nL) (hst : st0 = As.reverse ++ .ref b :: rest) (hW : 2 * (F0 m pc ls st0).monitorRoom + (rest.map fun v => v.category).sum ≤ 8) (hdg : decode cc pc = .ok (.invokevirtual index, 3)) (hf : cells ≤ R.cells ∧ slots ≤ R.slots)
    (kk : W p l e R s m args below meth c H locs cells slots Q (F0 m (pc + 3) ls (v :: rest))) : W p l e R s m args below meth c H locs cells slots Q (F0 m pc ls st0) :=
  rd_go (va_runVN CF hM cw ⟨RPc.blind, rv_of hY hP hw0 hc, RPc.at hP hY⟩ rfl hn hsz hst hW hdg hf) kk
theorem rdS (CF : CallFix p m c cc nL s args Ts own) (hM : Rd l y wy rm G w0 As v) (cw : CallB R s args own index y bytes maxL ret wy rm 0 0 n ∧ (Cond.static y).before args s = true) (hP : va_P G.1 vwCl w0 H) (hY : Sy G s)
    (hn : As.length = n) (hsz : ls.size = nL) (hst : st0 = As.reverse ++ rest) (hW : 2 * (F0 m pc ls st0).monitorRoom + (rest.map fun v => v.category).sum ≤ 8) (hdg : decode cc pc = .ok (.invokestatic index, 3)) (hf : cells ≤ R.cells ∧ slots ≤ R.slots)
    (kk : W p l e R s m args below meth c H locs cells slots Q (F0 m (pc + 3) ls (v :: rest))) : W p l e R s m args below meth c H locs cells slots Q (F0 m pc ls st0) :=
  rd_go (va_runS CF hM cw ⟨RPc.blind, RPc.at hP hY⟩ rfl hn hsz hst hW hdg hf) kk
theorem rdSN (CF : CallFix p m c cc nL s args Ts own) (hM : Rd l y wy rm G w0 As v) (cw : va_CN R s args own index y host bytes maxL ret wy rm 0 0 n ∧ (Cond.static y).before args s = true ∧ True) (hP : va_P G.1 vwCl w0 H) (hY : Sy G s)
    (hn : As.length = n) (hsz : ls.size = nL) (hst : st0 = As.reverse ++ rest) (hW : 2 * (F0 m pc ls st0).monitorRoom + (rest.map fun v => v.category).sum ≤ 8) (hdg : decode cc pc = .ok (.invokestatic index, 3)) (hf : cells ≤ R.cells ∧ slots ≤ R.slots)
    (kk : W p l e R s m args below meth c H locs cells slots Q (F0 m (pc + 3) ls (v :: rest))) : W p l e R s m args below meth c H locs cells slots Q (F0 m pc ls st0) :=
  rd_go (va_runSN CF hM cw ⟨RPc.blind, RPc.at hP hY⟩ rfl hn hsz hst hW hdg hf) kk
/-! a reader's own end -/
theorem rd_iret {x y' : Int32} (hexec : p.tables.exec = Jvm.exec) (hb : c.code = cc) (hr : meth.sig.returnType = some .int) (hlk : meth.locks = false) (hv : x = y') (hdg : decode cc pc = .ok (.ireturn, 1)) :
    W p l e R s m args below meth c s.heap [] 0 0 (MQ below (RQ (.int y')) args s 0 0 (fun _ => False)) (F0 m pc ls [.int x]) := by
  subst hv
  exact W.iret hexec hb hr (fun t ht _ => ⟨rfl, ht⟩) (fun q h => nomatch h) hdg hlk
theorem rd_zret {x y' : Int32} (hexec : p.tables.exec = Jvm.exec) (hb : c.code = cc) (hr : meth.sig.returnType = some .boolean) (hlk : meth.locks = false) (hv : x = y') (hn : narrow .boolean (.int x) = .int x) (hdg : decode cc pc = .ok (.ireturn, 1)) :
    W p l e R s m args below meth c s.heap [] 0 0 (MQ below (RQ (.int y')) args s 0 0 (fun _ => False)) (F0 m pc ls [.int x]) := by
  subst hv
  exact W.zret hexec hb hr hn (fun t ht _ => ⟨rfl, ht⟩) (fun q h => nomatch h) hdg hlk
theorem rd_lret {x y' : Int64} (hexec : p.tables.exec = Jvm.exec) (hb : c.code = cc) (hr : meth.sig.returnType = some .long) (hlk : meth.locks = false) (hv : x = y') (hdg : decode cc pc = .ok (.lreturn, 1)) :
    W p l e R s m args below meth c s.heap [] 0 0 (MQ below (RQ (.long y')) args s 0 0 (fun _ => False)) (F0 m pc ls [.long x]) := by
  subst hv
  exact W.lret hexec hb hr (fun t ht _ => ⟨rfl, ht⟩) (fun q h => nomatch h) hdg hlk
theorem rd_aret {a y' : Nat} {rt : FieldType} (hexec : p.tables.exec = Jvm.exec) (hb : c.code = cc) (hr : meth.sig.returnType = some rt) (hlk : meth.locks = false) (hrt : (∃ n, rt = .object n) ∨ ∃ t, rt = .array t) (hv : a = y') (hdg : decode cc pc = .ok (.areturn, 1)) :
    W p l e R s m args below meth c s.heap [] 0 0 (MQ below (RQ (.ref y')) args s 0 0 (fun _ => False)) (F0 m pc ls [.ref a]) := by
  subst hv
  exact W.aret hexec hb hr hrt (Or.inr ⟨_, rfl⟩) (fun t ht _ => ⟨rfl, ht⟩) (fun q h => nomatch h) hdg hlk
theorem va_P_nil : va_P G.1 vwCl [] H := fun k q h => by simp at h
/-! ### writers: world for world -/
def WQ (ov : Option Value) (G : GT) (w1 : va_W) (A : Nat → Prop) : Array Value → State → Outcome → State → Prop := fun _ st o t => (o = .returned ov ∧ va_P G.1 vwCl w1 t.heap) ∧ va_F A st t
abbrev WPc (G : GT) (w0 : va_W) (sz : Nat) (av : List Value) : Array Value → State → Prop := va_Pc av (fun U => U.heap.size = sz ∧ va_P G.1 vwCl w0 U.heap ∧ Sy G U ∧ va_D (fun _ => True) w0)
abbrev Wr (l : Launch) (y : MethodName) (wy : List Cond) (rm : Room) (G : GT) (w0 w1 : va_W) (av : List Value) (ov : Option Value) : Prop := ∀ sz : Nat, Met l y wy rm (WPc G w0 sz av) (WQ ov G w1 (va_A w0 sz)) 0 0 (va_A w0 sz)
theorem WPc.blind {sz : Nat} : FrameBlind (WPc G w0 sz av) := fun a U g mk q => ⟨q.1, q.2.1, q.2.2.1, Sy.same (s := U) rfl q.2.2.2.1, q.2.2.2.2⟩
theorem WPc.at (hP : va_P G.1 vwCl w0 H) (hY : Sy G s) (hD : va_D A w0) : ∀ U : State, U.heap = H → s.WarmedH U.vm → WPc G w0 H.size av av.toArray U := fun U hU hW => ⟨rfl, by rw [hU], by rw [hU]; exact hP, Sy.warm hW hY, hD.weaken (fun _ _ _ _ => trivial)⟩
/-- a world's parts -/
theorem va_P.cut (h : va_P G.1 vwCl (wa ++ (wc ++ wb)) H) : va_P G.1 vwCl wa H ∧ va_P G.1 vwCl wc H ∧ va_P G.1 vwCl wb H :=
  have a : ∀ {u : va_W}, (∀ q, q ∈ u → q ∈ wa ++ (wc ++ wb)) → va_P G.1 vwCl u H := fun hu k q hk => by
    obtain ⟨i, hi⟩ := List.getElem?_of_mem (hu q (List.mem_of_getElem? hk))
    exact h i q hi
  ⟨a fun q h => List.mem_append_left _ h, a fun q h => List.mem_append_right _ (List.mem_append_left _ h), a fun q h => List.mem_append_right _ (List.mem_append_right _ h)⟩
/-- apart, by the addresses -/
theorem va_D.nodup {A : Nat → Prop} {ws : va_W} : va_D A ws ↔ (ws.map Prod.fst).Nodup ∧ ∀ a ∈ ws.map Prod.fst, A a := by
  constructor
  · rintro ⟨h1, h2⟩
    refine ⟨?_, ?_⟩
    · rw [List.nodup_iff_pairwise_ne, List.pairwise_iff_getElem]
      intro i j hi hj hij he
      rw [List.getElem_map, List.getElem_map] at he
      have := h1 i j _ _ (List.getElem?_eq_getElem (by simpa using hi)) (List.getElem?_eq_getElem (by simpa using hj)) he
      omega
    · intro a ha
      obtain ⟨q, hq, rfl⟩ := List.mem_map.mp ha
      obtain ⟨i, hi⟩ := List.getElem?_of_mem hq
      exact h2 i q hi
  · rintro ⟨h1, h2⟩
    refine ⟨?_, ?_⟩
    · intro i j p q hp hq he
      obtain ⟨hi, hpi⟩ := List.getElem?_eq_some_iff.mp hp
      obtain ⟨hj, hqj⟩ := List.getElem?_eq_some_iff.mp hq
      rw [List.nodup_iff_pairwise_ne, List.pairwise_iff_getElem] at h1
      rcases Nat.lt_trichotomy i j with hlt | rfl | hlt
      · exact absurd (by rw [List.getElem_map, List.getElem_map, hpi, hqj]; exact he) (h1 i j (by simpa using hi) (by simpa using hj) hlt)
      · rfl
      · exact absurd (by rw [List.getElem_map, List.getElem_map, hpi, hqj]; exact he.symm) (h1 j i (by simpa using hj) (by simpa using hi) hlt)
    · intro k q hk
      exact h2 q.1 (List.mem_map.mpr ⟨q, List.mem_of_getElem? hk, rfl⟩)
theorem va_D.re {A : Nat → Prop} {ws ws' : va_W} (h : va_D A ws) (he : ws'.map Prod.fst = ws.map Prod.fst) : va_D A ws' := by
  rw [va_D.nodup] at h ⊢
  rw [he]
  exact h
theorem va_D.mid {A : Nat → Prop} (h : va_D A (wa ++ (wc ++ wb))) : va_D A wc := by
  rw [va_D.nodup] at h ⊢
  obtain ⟨h1, h2⟩ := h
  simp only [List.map_append] at h1 h2
  exact ⟨(List.nodup_append.mp (List.nodup_append.mp h1).2.1).1, fun a ha => h2 a (List.mem_append_right _ (List.mem_append_left _ ha))⟩
theorem va_A.free {A : Nat → Prop} (hD : va_D A wc) (hS : va_S A H0 H locs) (hA : ∀ q, H0.size ≤ q → A q) : ∀ q, va_A wc H.size q → A q := fun q h => by
  rcases h with ⟨k, e9, h⟩ | h
  · exact hD.2 k (q, e9) h
  · exact hA q (Nat.le_trans hS.1 h)
theorem wr_join {A : Nat → Prop} {H1 : Heap} (hP : va_P G.1 vwCl (wa ++ (wc ++ wb)) H) (hD : va_D A (wa ++ (wc ++ wb))) (hk : ∀ q : Nat, q < H.size → ¬ va_A wc H.size q → H1[q]? = H[q]?) (hP1 : va_P G.1 vwCl w1 H1) : va_P G.1 vwCl (wa ++ (w1 ++ wb)) H1 := by
  obtain ⟨pa, pc, pb⟩ := hP.cut
  have hnd := (va_D.nodup.mp hD).1
  simp only [List.map_append] at hnd
  obtain ⟨-, hn2, hn3⟩ := List.nodup_append.mp hnd
  obtain ⟨-, -, hn4⟩ := List.nodup_append.mp hn2
  have keep : ∀ {u : va_W}, va_P G.1 vwCl u H → (∀ q ∈ u, ∀ r ∈ wc, q.1 ≠ r.1) → va_P G.1 vwCl u H1 := fun {u} hu hx => hu.kept fun k q hq => hk q.1 (hu k q hq).lt fun h => by
    rcases h with ⟨k2, e9, h⟩ | h
    · exact hx q (List.mem_of_getElem? hq) _ (List.mem_of_getElem? h) rfl
    · exact absurd (hu k q hq).lt (Nat.not_lt.mpr h)
  refine va_P.app (keep pa fun q hq r hr => ?_) (va_P.app hP1 (keep pb fun q hq r hr => ?_))
  · exact hn3 q.1 (List.mem_map.mpr ⟨q, hq, rfl⟩) r.1 (List.mem_append_left _ (List.mem_map.mpr ⟨r, hr, rfl⟩))
  · exact fun h => hn4 r.1 (List.mem_map.mpr ⟨r, hr, rfl⟩) q.1 (List.mem_map.mpr ⟨q, hq, rfl⟩) h.symm
theorem wr_go {a : Array Value} (hr : va_Run p l e R s m args below meth c H locs cells slots 0 0 (F0 m pc ls st0) rest (WQ ov G w1 (va_A wc H.size) a) (va_A wc H.size))
    (hP : va_P G.1 vwCl (wa ++ (wc ++ wb)) H) (hD : va_D A (wa ++ (wc ++ wb))) (hS : va_S A H0 H locs) (hA : ∀ q, H0.size ≤ q → A q) (he : w1.map Prod.fst = wc.map Prod.fst)
    (kk : ∀ (H1 : Heap) (locs1 : List Loc), va_P G.1 vwCl (wa ++ (w1 ++ wb)) H1 → va_D A (wa ++ (w1 ++ wb)) → va_S A H0 H1 locs1 → W p l e R s m args below meth c H1 locs1 cells slots Q (F0 m (pc + 3) ls (ov.toList ++ rest))) : W p l e R s m args below meth c H locs cells slots Q (F0 m pc ls st0) := by
  intro T hT X
  have hf := va_A.free hD.mid hS hA
  obtain ⟨v', st₀, t, T', L, h0, X', hL, e1, e2, ⟨⟨hv, hp⟩, hz, hk⟩, st⟩ := hr T hT X
  cases hv
  rw [h0] at hz hk
  rw [← e1] at hz hk hp
  obtain ⟨t2, a1, b1⟩ := kk T'.heap (locs ++ L) (wr_join hP hD hk hp) (hD.re (by simp [he])) ⟨Nat.le_trans hS.1 hz, fun q h1 h2 => by rw [hk q (Nat.lt_of_lt_of_le h1 hS.1) (fun z => h2 (hf q z))]; exact hS.2.1 q h1 h2, fun q hq => by
      rcases List.mem_append.mp hq with h | h
      · exact hS.2.2 q h
      · exact hf _ (hL q h)⟩ T' rfl X'
  exact ⟨t2, st t2 a1, b1⟩
theorem wrV (wa wc wb w1 : va_W) (CF : CallFix p m c cc nL s args Ts own) (hM : Wr l y wy rm G wc w1 (.ref b :: As) ov) (cw : CallW R s args own C index y bytes maxL ret wy rm 0 0 n) (hP : va_P G.1 vwCl (wa ++ (wc ++ wb)) H) (hD : va_D A (wa ++ (wc ++ wb))) (hS : va_S A H0 H locs) (hA : ∀ q, H0.size ≤ q → A q) (hY : Sy G s) (hw0 : wc[0]? = some (b, .inr (ci, fs))) (hc : vwCl[ci]? = some (C, T, N)) (he : w1.map Prod.fst = wc.map Prod.fst)
    (hn : As.length = n) (hsz : ls.size = nL) (hst : st0 = As.reverse ++ .ref b :: rest) (hW : 2 * (F0 m pc ls st0).monitorRoom + (rest.map fun v => v.category).sum ≤ 8) (hdg : decode cc pc = .ok (.invokevirtual index, 3)) (hf : cells ≤ R.cells ∧ slots ≤ R.slots)
    (kk : ∀ (H1 : Heap) (locs1 : List Loc), va_P G.1 vwCl (wa ++ (w1 ++ wb)) H1 → va_D A (wa ++ (w1 ++ wb)) → va_S A H0 H1 locs1 → W p l e R s m args below meth c H1 locs1 cells slots Q (F0 m (pc + 3) ls (ov.toList ++ rest))) : W p l e R s m args below meth c H locs cells slots Q (F0 m pc ls st0) :=
  wr_go (va_runV CF (hM H.size) cw ⟨WPc.blind, rv_of hY hP.cut.2.1 hw0 hc, WPc.at hP.cut.2.1 hY hD.mid⟩ rfl hn hsz hst hW hdg hf) hP hD hS hA he kk
theorem wrVN (wa wc wb w1 : va_W) (CF : CallFix p m c cc nL s args Ts own) (hM : Wr l y wy rm G wc w1 (.ref b :: As) ov) (cw : va_CN R s args own index y host bytes maxL ret wy rm 0 0 n ∧ (Cond.instanceMethod y).before args s = true ∧ (Cond.selects C y y).before args s = true) (hP : va_P G.1 vwCl (wa ++ (wc ++ wb)) H) (hD : va_D A (wa ++ (wc ++ wb))) (hS : va_S A H0 H locs) (hA : ∀ q, H0.size ≤ q → A q) (hY : Sy G s) (hw0 : wc[0]? = some (b, .inr (ci, fs))) (hc : vwCl[ci]? = some (C, T, N)) (he : w1.map Prod.fst = wc.map Prod.fst)
    (hn : As.length = n) (hsz : ls.size = nL) (hst : st0 = As.reverse ++ .ref b :: rest) (hW : 2 * (F0 m pc ls st0).monitorRoom + (rest.map fun v => v.category).sum ≤ 8) (hdg : decode cc pc = .ok (.invokevirtual index, 3)) (hf : cells ≤ R.cells ∧ slots ≤ R.slots)
    (kk : ∀ (H1 : Heap) (locs1 : List Loc), va_P G.1 vwCl (wa ++ (w1 ++ wb)) H1 → va_D A (wa ++ (w1 ++ wb)) → va_S A H0 H1 locs1 → W p l e R s m args below meth c H1 locs1 cells slots Q (F0 m (pc + 3) ls (ov.toList ++ rest))) : W p l e R s m args below meth c H locs cells slots Q (F0 m pc ls st0) :=
  wr_go (va_runVN CF (hM H.size) cw ⟨WPc.blind, rv_of hY hP.cut.2.1 hw0 hc, WPc.at hP.cut.2.1 hY hD.mid⟩ rfl hn hsz hst hW hdg hf) hP hD hS hA he kk
theorem wrS (wa wc wb w1 : va_W) (CF : CallFix p m c cc nL s args Ts own) (hM : Wr l y wy rm G wc w1 As ov) (cw : CallB R s args own index y bytes maxL ret wy rm 0 0 n ∧ (Cond.static y).before args s = true) (hP : va_P G.1 vwCl (wa ++ (wc ++ wb)) H) (hD : va_D A (wa ++ (wc ++ wb))) (hS : va_S A H0 H locs) (hA : ∀ q, H0.size ≤ q → A q) (hY : Sy G s) (he : w1.map Prod.fst = wc.map Prod.fst)
    (hn : As.length = n) (hsz : ls.size = nL) (hst : st0 = As.reverse ++ rest) (hW : 2 * (F0 m pc ls st0).monitorRoom + (rest.map fun v => v.category).sum ≤ 8) (hdg : decode cc pc = .ok (.invokestatic index, 3)) (hf : cells ≤ R.cells ∧ slots ≤ R.slots)
    (kk : ∀ (H1 : Heap) (locs1 : List Loc), va_P G.1 vwCl (wa ++ (w1 ++ wb)) H1 → va_D A (wa ++ (w1 ++ wb)) → va_S A H0 H1 locs1 → W p l e R s m args below meth c H1 locs1 cells slots Q (F0 m (pc + 3) ls (ov.toList ++ rest))) : W p l e R s m args below meth c H locs cells slots Q (F0 m pc ls st0) :=
  wr_go (va_runS CF (hM H.size) cw ⟨WPc.blind, WPc.at hP.cut.2.1 hY hD.mid⟩ rfl hn hsz hst hW hdg hf) hP hD hS hA he kk
theorem wrSN (wa wc wb w1 : va_W) (CF : CallFix p m c cc nL s args Ts own) (hM : Wr l y wy rm G wc w1 As ov) (cw : va_CN R s args own index y host bytes maxL ret wy rm 0 0 n ∧ (Cond.static y).before args s = true ∧ True) (hP : va_P G.1 vwCl (wa ++ (wc ++ wb)) H) (hD : va_D A (wa ++ (wc ++ wb))) (hS : va_S A H0 H locs) (hA : ∀ q, H0.size ≤ q → A q) (hY : Sy G s) (he : w1.map Prod.fst = wc.map Prod.fst)
    (hn : As.length = n) (hsz : ls.size = nL) (hst : st0 = As.reverse ++ rest) (hW : 2 * (F0 m pc ls st0).monitorRoom + (rest.map fun v => v.category).sum ≤ 8) (hdg : decode cc pc = .ok (.invokestatic index, 3)) (hf : cells ≤ R.cells ∧ slots ≤ R.slots)
    (kk : ∀ (H1 : Heap) (locs1 : List Loc), va_P G.1 vwCl (wa ++ (w1 ++ wb)) H1 → va_D A (wa ++ (w1 ++ wb)) → va_S A H0 H1 locs1 → W p l e R s m args below meth c H1 locs1 cells slots Q (F0 m (pc + 3) ls (ov.toList ++ rest))) : W p l e R s m args below meth c H locs cells slots Q (F0 m pc ls st0) :=
  wr_go (va_runSN CF (hM H.size) cw ⟨WPc.blind, WPc.at hP.cut.2.1 hY hD.mid⟩ rfl hn hsz hst hW hdg hf) hP hD hS hA he kk
/-! a writer's own end -/
theorem wr_vret (hexec : p.tables.exec = Jvm.exec) (hb : c.code = cc) (hr : meth.sig.returnType = none) (hlk : meth.locks = false) (hS : va_S A s.heap H locs) (hP : va_P G.1 vwCl w0 H) (hw : w0 = w1) (hdg : decode cc pc = .ok (.return_, 1)) :
    W p l e R s m args below meth c H locs 0 0 (MQ below (WQ none G w1 A) args s 0 0 A) (F0 m pc ls []) := by
  subst hw
  exact W.vret hexec hb hr (fun t ht _ => ⟨⟨rfl, by rw [ht]; exact hP⟩, hS.F ht⟩) hS.2.2 hdg hlk
theorem wr_iret {x y' : Int32} (hexec : p.tables.exec = Jvm.exec) (hb : c.code = cc) (hr : meth.sig.returnType = some .int) (hlk : meth.locks = false) (hS : va_S A s.heap H locs) (hP : va_P G.1 vwCl w0 H) (hw : w0 = w1) (hv : x = y') (hdg : decode cc pc = .ok (.ireturn, 1)) :
    W p l e R s m args below meth c H locs 0 0 (MQ below (WQ (some (.int y')) G w1 A) args s 0 0 A) (F0 m pc ls [.int x]) := by
  subst hw; subst hv
  exact W.iret hexec hb hr (fun t ht _ => ⟨⟨rfl, by rw [ht]; exact hP⟩, hS.F ht⟩) hS.2.2 hdg hlk
theorem wr_zret {x y' : Int32} (hexec : p.tables.exec = Jvm.exec) (hb : c.code = cc) (hr : meth.sig.returnType = some .boolean) (hlk : meth.locks = false) (hS : va_S A s.heap H locs) (hP : va_P G.1 vwCl w0 H) (hw : w0 = w1) (hv : x = y') (hn : narrow .boolean (.int x) = .int x) (hdg : decode cc pc = .ok (.ireturn, 1)) :
    W p l e R s m args below meth c H locs 0 0 (MQ below (WQ (some (.int y')) G w1 A) args s 0 0 A) (F0 m pc ls [.int x]) := by
  subst hw; subst hv
  exact W.zret hexec hb hr hn (fun t ht _ => ⟨⟨rfl, by rw [ht]; exact hP⟩, hS.F ht⟩) hS.2.2 hdg hlk
theorem wr_lret {x y' : Int64} (hexec : p.tables.exec = Jvm.exec) (hb : c.code = cc) (hr : meth.sig.returnType = some .long) (hlk : meth.locks = false) (hS : va_S A s.heap H locs) (hP : va_P G.1 vwCl w0 H) (hw : w0 = w1) (hv : x = y') (hdg : decode cc pc = .ok (.lreturn, 1)) :
    W p l e R s m args below meth c H locs 0 0 (MQ below (WQ (some (.long y')) G w1 A) args s 0 0 A) (F0 m pc ls [.long x]) := by
  subst hw; subst hv
  exact W.lret hexec hb hr (fun t ht _ => ⟨⟨rfl, by rw [ht]; exact hP⟩, hS.F ht⟩) hS.2.2 hdg hlk
end BASE
end
section
/-! what the class's methods compute, in their own words -/
theorem vp_of {n : Nat} {i : Int32} (hn : n < 2147483648) (h1 : ¬ i < 0) (h2 : ¬ Int32.ofNat n ≤ i) : vp_in i n := by
  rintro (h | h)
  · exact h1 h
  · refine h2 ?_
    rw [Int32.le_iff_toInt_le, show (Int32.ofNat n).toInt = (n : Int) from nI_toInt hn]
    rw [Int32.lt_iff_toInt_lt, Int32.toInt_zero] at h1
    have : (i.toNatClampNeg : Int) = i.toInt := by
      unfold Int32.toNatClampNeg
      omega
    omega
theorem ms_up {a c : Int32} {n : Nat} (h : ¬ c ≤ a) (hm : (c.toInt - a.toInt).toNat < n + 1) : (c.toInt - (a + 1).toInt).toNat < n := by
  rw [Int32.le_iff_toInt_le] at h
  have h1 := c.toInt_lt
  have h2 := a.le_toInt
  have h3 : (a + 1).toInt = a.toInt + 1 := by
    rw [Int32.toInt_add, show (1 : Int32).toInt = 1 from rfl]
    exact Int.bmod_eq_of_le (by omega) (by omega)
  omega
theorem ms_dn {p i : Int32} {n : Nat} (h : ¬ i ≤ p) (hm : (i.toInt - p.toInt).toNat < n + 1) : ((i + (-1)).toInt - p.toInt).toNat < n := by
  rw [Int32.le_iff_toInt_le] at h
  have h1 := i.toInt_lt
  have h2 := p.le_toInt
  have h3 : (i + (-1)).toInt = i.toInt - 1 := by
    rw [Int32.toInt_add, show (-1 : Int32).toInt = -1 from rfl]
    exact Int.bmod_eq_of_le (by omega) (by omega)
  omega
def at_ (n : Nat) (f : Nat → Int32) (i : Int32) : Int32 := if i < 0 then 0 else if Int32.ofNat n ≤ i then 0 else f i.toNatClampNeg
def put_ (n : Nat) (f : Nat → Int32) (i v : Int32) : Nat → Int32 := if i < 0 then f else if Int32.ofNat n ≤ i then f else upd f i.toNatClampNeg v
def rem_ (d q : Int32) : Int32 := if q ≤ 0 then 0 else d - d / q * q
def quo_ (v d : Int64) : Int64 := if lg_cmp d 0 ≤ 0 then 0 else v / d
def insL (n : Nat) (p : Int32) : Nat → Int32 → (Nat → Int32) → (Nat → Int32)
  | 0, _, f => f
  | k + 1, i, f => if i ≤ p then f else insL n p k (i + (-1)) (put_ n f i (at_ n f (i - 1)))
def ins_ (n : Nat) (f : Nat → Int32) (p e v : Int32) : Nat → Int32 := put_ n (insL n p (((e - 1).toInt - p.toInt).toNat + 1) (e - 1) f) p v
abbrev ResT : Type := Int32 × Int32 × (Nat → Int32) × (Nat → Int32)
abbrev GrpT : Type := Int32 × ResT
abbrev PriT : Type := Int32 × Int32 × (Nat → Int32) × (Nat → Int32) × (Nat → Int32) × (Nat → Int32)
abbrev DisT : Type := Int32 × Int32 × (Nat → Int32) × (Nat → Int32)
abbrev ChaT : Type := Int32 × Int32 × Int32 × Int32 × (Nat → Int32) × (Nat → Int32)
abbrev StrT : Type := Int32 × Int32 × Int32 × ResT × GrpT × GrpT × GrpT × GrpT × PriT × DisT × ChaT
abbrev RRT : Type := Int32 × StrT × StrT × PriT × DisT
def wRes (G : GT) (ad : Nat → Nat) (o : Nat) (r : ResT) : va_W := [(ad o, .inr (4, [.ref (ad (o+1)), .ref (ad (o+2)), .int r.1, .int r.2.1])), (ad (o+1), .inl (G.2.1, 16, .inl r.2.2.1)), (ad (o+2), .inl (G.2.1, 16, .inl r.2.2.2))]
def wGrp (G : GT) (ad : Nat → Nat) (o : Nat) (r : GrpT) : va_W := (ad o, .inr (2, [.ref (ad (o+1)), .int r.1])) :: wRes G ad (o+1) r.2
def wPri (G : GT) (ad : Nat → Nat) (o : Nat) (r : PriT) : va_W := [(ad o, .inr (3, [.ref (ad (o+1)), .ref (ad (o+2)), .ref (ad (o+3)), .ref (ad (o+4)), .int r.1, .int r.2.1])), (ad (o+1), .inl (G.2.1, 17, .inl r.2.2.1)), (ad (o+2), .inl (G.2.1, 17, .inl r.2.2.2.1)), (ad (o+3), .inl (G.2.1, 17, .inl r.2.2.2.2.1)), (ad (o+4), .inl (G.2.1, 17, .inl r.2.2.2.2.2))]
def wDis (G : GT) (ad : Nat → Nat) (o : Nat) (r : DisT) : va_W := [(ad o, .inr (1, [.ref (ad (o+1)), .ref (ad (o+2)), .int r.1, .int r.2.1])), (ad (o+1), .inl (G.2.1, 16, .inl r.2.2.1)), (ad (o+2), .inl (G.2.1, 16, .inl r.2.2.2))]
def wCha (G : GT) (ad : Nat → Nat) (o : Nat) (r : ChaT) : va_W := [(ad o, .inr (0, [.ref (ad (o+1)), .ref (ad (o+2)), .int r.1, .int r.2.1, .int r.2.2.1, .int r.2.2.2.1])), (ad (o+1), .inl (G.2.1, 300, .inl r.2.2.2.2.1)), (ad (o+2), .inl (G.2.1, 300, .inl r.2.2.2.2.2))]
def wStr (G : GT) (ad : Nat → Nat) (o : Nat) (r : StrT) : va_W := (ad o, .inr (5, [.ref (ad (o+1)), .ref (ad (o+4)), .ref (ad (o+8)), .ref (ad (o+12)), .ref (ad (o+16)), .ref (ad (o+20)), .ref (ad (o+25)), .ref (ad (o+28)), .int r.1, .int r.2.1, .int r.2.2.1])) ::
  (wRes G ad (o+1) r.2.2.2.1 ++ (wGrp G ad (o+4) r.2.2.2.2.1 ++ (wGrp G ad (o+8) r.2.2.2.2.2.1 ++ (wGrp G ad (o+12) r.2.2.2.2.2.2.1 ++ (wGrp G ad (o+16) r.2.2.2.2.2.2.2.1 ++ (wPri G ad (o+20) r.2.2.2.2.2.2.2.2.1 ++ (wDis G ad (o+25) r.2.2.2.2.2.2.2.2.2.1 ++ wCha G ad (o+28) r.2.2.2.2.2.2.2.2.2.2)))))))
def wRR (G : GT) (ad : Nat → Nat) (o : Nat) (r : RRT) : va_W := (ad o, .inr (6, [.ref (ad (o+1)), .ref (ad (o+32)), .ref (ad (o+63)), .ref (ad (o+68)), .int r.1])) :: (wStr G ad (o+1) r.2.1 ++ (wStr G ad (o+32) r.2.2.1 ++ (wPri G ad (o+63) r.2.2.2.1 ++ wDis G ad (o+68) r.2.2.2.2)))
/-! reservoirs -/
def resStart (k : Int32) (r : ResT) : ResT := (k, 0, r.2.2.1, r.2.2.2)
def resGive (r : ResT) (it po di : Int32) : ResT :=
  if r.1 < r.2.1 + 1 then (if r.1 ≤ rem_ di (r.2.1 + 1) then (r.1, r.2.1 + 1, r.2.2.1, r.2.2.2) else (r.1, r.2.1 + 1, put_ 16 r.2.2.1 (rem_ di (r.2.1 + 1)) it, put_ 16 r.2.2.2 (rem_ di (r.2.1 + 1)) po))
  else (if r.1 ≤ r.2.1 + 1 - 1 then (r.1, r.2.1 + 1, r.2.2.1, r.2.2.2) else (r.1, r.2.1 + 1, put_ 16 r.2.2.1 (r.2.1 + 1 - 1) it, put_ 16 r.2.2.2 (r.2.1 + 1 - 1) po))
def resFilled (r : ResT) : Int32 := if r.1 < r.2.1 then r.1 else r.2.1
def grpStart (k : Int32) (g : GrpT) : GrpT := (0, resStart k g.2)
def grpGive (g : GrpT) (it of po di : Int32) : GrpT := (g.1 + of, resGive g.2 it po di)
/-! priorities -/
def priStart (k : Int32) (r : PriT) : PriT := (k, 0, r.2.2)
def isG (r : PriT) (w d p : Int32) : Int32 := if lg_cmp (w.toInt64 * ((at_ 17 r.2.2.2.2.2 p).toInt64 + 1)) ((at_ 17 r.2.2.2.1 p).toInt64 * (d.toInt64 + 1)) ≤ 0 then 0 else 1
def pfL (r : PriT) (w d : Int32) : Nat → Int32 → Int32
  | 0, p => p
  | n + 1, p => if p ≤ 0 then p else if isG r w d (p - 1) = 0 then p else pfL r w d n (p + (-1))
def priPf (r : PriT) (w d : Int32) : Int32 := pfL r w d ((r.2.1.toInt - (0 : Int32).toInt).toNat + 1) r.2.1
def priAdd (r : PriT) (it w g d : Int32) : PriT :=
  if priPf r w d ≤ r.1 then
    let h : Int32 := if r.1 + 1 < r.2.1 + 1 then r.1 + 1 else r.2.1 + 1
    (r.1, h, ins_ 17 r.2.2.1 (priPf r w d) h it, ins_ 17 r.2.2.2.1 (priPf r w d) h w, ins_ 17 r.2.2.2.2.1 (priPf r w d) h g, ins_ 17 r.2.2.2.2.2 (priPf r w d) h d)
  else r
def paL (q : PriT) (c : Int32) : Nat → Int32 → PriT → PriT
  | 0, _, r => r
  | n + 1, i, r => if c ≤ i then r else paL q c n (i + 1) (priAdd r (at_ 17 q.2.2.1 i) (at_ 17 q.2.2.2.1 i) (at_ 17 q.2.2.2.2.1 i) (at_ 17 q.2.2.2.2.2 i))
def priAll (r q : PriT) : PriT := paL q q.2.1 ((q.2.1.toInt - (0 : Int32).toInt).toNat + 1) 0 r
def priSampled (r : PriT) : Int32 := if r.1 < r.2.1 then r.1 else r.2.1
def priBound (r : PriT) : Int64 := if r.1 < r.2.1 then quo_ ((at_ 17 r.2.2.2.1 r.1).toInt64 <<< ((31 : Int32).toInt64 &&& 63)) ((at_ 17 r.2.2.2.2.2 r.1).toInt64 + 1) else 0
def priEst (r : PriT) (p : Int32) : Int64 := if priBound r < (at_ 17 r.2.2.2.1 p).toInt64 then (at_ 17 r.2.2.2.1 p).toInt64 else priBound r
def esL (r : PriT) (g c : Int32) : Nat → Int64 → Int32 → Int64
  | 0, x, _ => x
  | n + 1, x, i => if c ≤ i then x else esL r g c n (if at_ 17 r.2.2.2.2.1 i = g then x + priEst r i else x) (i + 1)
def priEstSum (r : PriT) (g : Int32) : Int64 := esL r g (priSampled r) (((priSampled r).toInt - (0 : Int32).toInt).toNat + 1) 0 0
def wsL_ (r : PriT) (g c : Int32) : Nat → Int32 → Int32 → Int32
  | 0, x, _ => x
  | n + 1, x, i => if c ≤ i then x else wsL_ r g c n (if at_ 17 r.2.2.2.2.1 i = g then x + at_ 17 r.2.2.2.1 i else x) (i + 1)
def priWSum (r : PriT) (g : Int32) : Int32 := wsL_ r g (priSampled r) (((priSampled r).toInt - (0 : Int32).toInt).toNat + 1) 0 0
/-! distinct items -/
def disStart (k : Int32) (r : DisT) : DisT := (k, 0, r.2.2)
def hash_ (it : Int32) : Int64 := it.toInt64 * 2654435761 - it.toInt64 * 2654435761 / 4294967296 * 4294967296 + 1
def dfL (r : DisT) (h : Int64) : Nat → Int32 → Int32
  | 0, p => p
  | n + 1, p => if r.2.1 ≤ p then p else if 0 ≤ lg_cmp (hash_ (at_ 16 r.2.2.1 p)) h then p else dfL r h n (p + 1)
def disPf (r : DisT) (it : Int32) : Int32 := dfL r (hash_ it) ((r.2.1.toInt - (0 : Int32).toInt).toNat + 1) 0
def disIns (r : DisT) (p it of : Int32) : DisT :=
  if p < r.1 then
    let h : Int32 := if r.1 < r.2.1 + 1 then r.1 else r.2.1 + 1
    (r.1, h, ins_ 16 r.2.2.1 p h it, ins_ 16 r.2.2.2 p h of)
  else r
def disAdd (r : DisT) (it of : Int32) : DisT :=
  if r.2.1 ≤ disPf r it then disIns r (disPf r it) it of
  else if at_ 16 r.2.2.1 (disPf r it) = it then (r.1, r.2.1, r.2.2.1, put_ 16 r.2.2.2 (disPf r it) (at_ 16 r.2.2.2 (disPf r it) + of))
  else disIns r (disPf r it) it of
def daL (q : DisT) (c : Int32) : Nat → Int32 → DisT → DisT
  | 0, _, r => r
  | n + 1, i, r => if c ≤ i then r else daL q c n (i + 1) (disAdd r (at_ 16 q.2.2.1 i) (at_ 16 q.2.2.2 i))
def disAll (r q : DisT) : DisT := daL q q.2.1 ((q.2.1.toInt - (0 : Int32).toInt).toNat + 1) 0 r
def disEst (r : DisT) : Int64 := if r.1 ≤ r.2.1 then quo_ ((r.1 - 1).toInt64 * 4294967296) (hash_ (at_ 16 r.2.2.1 (r.1 - 1))) else r.2.1.toInt64
/-! the chain -/
def chaStart (k : Int32) (r : ChaT) : ChaT := (k, 0, 0, 0, r.2.2.2.2)
def chaApp (r : ChaT) (it po se : Int32) : ChaT := (r.1, r.2.1, r.2.2.1 + 1, po + 1 + rem_ se r.1, put_ 300 r.2.2.2.2.1 r.2.2.1 it, put_ 300 r.2.2.2.2.2 r.2.2.1 po)
def chL (po w en : Int32) (h : Nat → Int32) : Nat → Int32 → Int32
  | 0, s => s
  | n + 1, s => if en ≤ s then s else if po - w < at_ 300 h s then s else chL po w en h n (s + 1)
def chaCut (po : Int32) (r : ChaT) : ChaT := (r.1, chL po r.1 r.2.2.1 r.2.2.2.2.2 ((r.2.2.1.toInt - r.2.1.toInt).toNat + 1) r.2.1, r.2.2.1, r.2.2.2.1, r.2.2.2.2.1, r.2.2.2.2.2)
def chaGive (r : ChaT) (it po fi se : Int32) : ChaT :=
  if rem_ fi (if r.1 < po then r.1 else po) = 0 then chaCut po (chaApp (r.1, 0, 0, r.2.2.2) it po se)
  else if po = r.2.2.2.1 then chaCut po (chaApp r it po se)
  else chaCut po r
def chaLen (r : ChaT) : Int32 := r.2.2.1 - r.2.1
/-! streams -/
def strEmpty (r : StrT) : StrT :=
  (r.1, r.2.1, 0, resStart r.1 r.2.2.2.1, grpStart r.1 r.2.2.2.2.1, grpStart r.1 r.2.2.2.2.2.1, grpStart r.1 r.2.2.2.2.2.2.1, grpStart r.1 r.2.2.2.2.2.2.2.1, priStart r.1 r.2.2.2.2.2.2.2.2.1, disStart r.1 r.2.2.2.2.2.2.2.2.2.1, chaStart r.2.1 r.2.2.2.2.2.2.2.2.2.2)
def strStart (k w : Int32) (r : StrT) : StrT := strEmpty (k, w, r.2.2)
def strTake (r : StrT) (it w g fi se : Int32) : StrT :=
  let n : Int32 := r.2.2.1 + 1
  (r.1, r.2.1, n, resGive r.2.2.2.1 it n fi, (if g = 0 then grpGive r.2.2.2.2.1 it w n fi else r.2.2.2.2.1), (if g = 1 then grpGive r.2.2.2.2.2.1 it w n fi else r.2.2.2.2.2.1), (if g = 2 then grpGive r.2.2.2.2.2.2.1 it w n fi else r.2.2.2.2.2.2.1), (if g = 0 then r.2.2.2.2.2.2.2.1 else if g = 1 then r.2.2.2.2.2.2.2.1 else if g = 2 then r.2.2.2.2.2.2.2.1 else grpGive r.2.2.2.2.2.2.2.1 it w n fi),
   priAdd r.2.2.2.2.2.2.2.2.1 it w g fi, disAdd r.2.2.2.2.2.2.2.2.2.1 it 1, chaGive r.2.2.2.2.2.2.2.2.2.2 it n fi se)
def grpRef (ad : Nat → Nat) (o : Nat) (g : Int32) : Nat := if g = 0 then ad (o+4) else if g = 1 then ad (o+8) else if g = 2 then ad (o+12) else ad (o+16)
theorem tb3 {x : Int32} (h0 : ¬ x = 0) (h1 : ¬ x = 1) (h2 : ¬ x = 2) : x.toInt < 0 ∨ 2 < x.toInt := by
  rw [← Int32.toInt_inj] at h0 h1 h2
  have a : (0 : Int32).toInt = 0 := rfl
  have b : (1 : Int32).toInt = 1 := rfl
  have c : (2 : Int32).toInt = 2 := rfl
  omega
end
section
set_option maxHeartbeats 4000000 in
set_option maxRecDepth 100000 in
theorem k_X6_at (l : Launch) (G : GT) (n : Nat) (a : Nat) (f : Nat → Int32) (i : Int32) (hn : n < 2147483648) : Rd l yX6_at wsX6_at { frames := 0, cells := 0, slots := 0, locals := 0 } G [(a, .inl (G.2.1, n, .inl f))] [.ref a, .int i] (.int (at_ n f i)) := by
  refine Met.ofW (cc := cX6_at) (maxL := 2) (ret := (some .int)) (by decide) rfl ?_
  intro p e s m args below meth c s₁ B hml hv
  obtain ⟨rfl, hP, hY⟩ := hv
  have hx := B.exec
  have hb := B.bytes
  have hr := B.returns
  have hts := atoms_spec (ws := wsX6_at) B.pre
  have hown : s.vm.findClass RX6 = some m.cls := findClass_of_methodNamed B.named
  have hlk := B.notSynchronized
  have CF : CallFix p m c cX6_at 2 s _ wsX6_at RX6 := ⟨hx, hb, hml, hown, hts⟩
  have hl := lv_entry ([.ref a, .int i]) (n := 2) (Nat.le_of_ble_eq_true rfl)
  rw [lg_entry_eq]
  generalize (lg_sl ([.ref a, .int i]) ++ List.replicate (2 - (lg_sl ([.ref a, .int i])).length) Slot.unset).toArray = ls at hl ⊢
  have hl : lv_has ls 2 [(0, .ref a), (1, .int i)] := hl
  refine lv_iload_n hx hb dX6_at_0 rfl (lv_at hl 1 rfl) ?_
  refine lv_if_lt (tgt := 16) hx hb dX6_at_1 (by decide) (fun h1_1 => ?_) (fun h1_1 => ?_)
  · refine lv_iconst (v := 0) hx hb dX6_at_16 (by decide) ?_
    exact rd_iret hx hb hr hlk (by first | with_reducible rfl | (simp only [at_, h1_1, ↓reduceIte]; done)) dX6_at_17
  · refine lv_iload_n hx hb dX6_at_4 rfl (lv_at hl 1 rfl) ?_
    refine lv_aload_n hx hb dX6_at_5 rfl (lv_at hl 0 rfl) ?_
    refine va_alen hx hb hY.1 hP 0 0 rfl rfl (v := Int32.ofNat n) rfl dX6_at_6 ?_
    refine lv_icmp_ge (tgt := 16) hx hb dX6_at_7 (by decide) (fun h7_2 => ?_) (fun h7_2 => ?_)
    · refine lv_iconst (v := 0) hx hb dX6_at_16 (by decide) ?_
      exact rd_iret hx hb hr hlk (by first | with_reducible rfl | (simp only [at_, h1_1, h7_2, ↓reduceIte]; done)) dX6_at_17
    · refine lv_aload_n hx hb dX6_at_10 rfl (lv_at hl 0 rfl) ?_
      refine lv_iload_n hx hb dX6_at_11 rfl (lv_at hl 1 rfl) ?_
      refine va_iald hx hb hY.1 hP 0 0 rfl rfl (vp_of hn h1_1 h7_2) dX6_at_12 ?_
      refine lv_goto (tgt := 17) hx hb dX6_at_13 (by decide) ?_
      exact rd_iret hx hb hr hlk (by first | with_reducible rfl | (simp only [at_, h1_1, h7_2, ↓reduceIte]; done)) dX6_at_17

set_option maxHeartbeats 4000000 in
set_option maxRecDepth 100000 in
theorem k_X6_put (l : Launch) (G : GT) (n : Nat) (a : Nat) (f : Nat → Int32) (i v : Int32) (hn : n < 2147483648) : Wr l yX6_put wsX6_put { frames := 0, cells := 0, slots := 0, locals := 0 } G [(a, .inl (G.2.1, n, .inl f))] [(a, .inl (G.2.1, n, .inl (put_ n f i v)))] [.ref a, .int i, .int v] none := by
  intro sz
  refine Met.ofW (cc := cX6_put) (maxL := 3) (ret := none) (by decide) rfl ?_
  intro p e s m args below meth c s₁ B hml hv
  obtain ⟨rfl, hsz, hP, hY, hD0⟩ := hv
  subst hsz
  have hD := hD0.self (sz := s.heap.size)
  generalize hAe : va_A [(a, .inl (G.2.1, n, .inl f))] s.heap.size = A at hD ⊢
  have hA : ∀ q : Nat, s.heap.size ≤ q → A q := fun q h => by rw [← hAe]; exact Or.inr h
  have hS : va_S A s.heap s.heap [] := va_S.rf
  have hx := B.exec
  have hb := B.bytes
  have hr := B.returns
  have hts := atoms_spec (ws := wsX6_put) B.pre
  have hown : s.vm.findClass RX6 = some m.cls := findClass_of_methodNamed B.named
  have hlk := B.notSynchronized
  have CF : CallFix p m c cX6_put 3 s _ wsX6_put RX6 := ⟨hx, hb, hml, hown, hts⟩
  have hl := lv_entry ([.ref a, .int i, .int v]) (n := 3) (Nat.le_of_ble_eq_true rfl)
  rw [lg_entry_eq]
  generalize (lg_sl ([.ref a, .int i, .int v]) ++ List.replicate (3 - (lg_sl ([.ref a, .int i, .int v])).length) Slot.unset).toArray = ls at hl ⊢
  have hl : lv_has ls 3 [(0, .ref a), (1, .int i), (2, .int v)] := hl
  refine lv_iload_n hx hb dX6_put_0 rfl (lv_at hl 1 rfl) ?_
  refine lv_if_lt (tgt := 14) hx hb dX6_put_1 (by decide) (fun h1_1 => ?_) (fun h1_1 => ?_)
  · exact wr_vret hx hb hr hlk hS hP (by first | with_reducible rfl | (simp only [put_, h1_1, ↓reduceIte]; done)) dX6_put_14
  · refine lv_iload_n hx hb dX6_put_4 rfl (lv_at hl 1 rfl) ?_
    refine lv_aload_n hx hb dX6_put_5 rfl (lv_at hl 0 rfl) ?_
    refine va_alen hx hb hY.1 hP 0 0 rfl rfl (v := Int32.ofNat n) rfl dX6_put_6 ?_
    refine lv_icmp_ge (tgt := 14) hx hb dX6_put_7 (by decide) (fun h7_2 => ?_) (fun h7_2 => ?_)
    · exact wr_vret hx hb hr hlk hS hP (by first | with_reducible rfl | (simp only [put_, h1_1, h7_2, ↓reduceIte]; done)) dX6_put_14
    · refine lv_aload_n hx hb dX6_put_10 rfl (lv_at hl 0 rfl) ?_
      refine lv_iload_n hx hb dX6_put_11 rfl (lv_at hl 1 rfl) ?_
      refine lv_iload_n hx hb dX6_put_12 rfl (lv_at hl 2 rfl) ?_
      refine va_iast hx hb hY.1 hP hD hS 0 0 rfl rfl (vp_of hn h1_1 h7_2) dX6_put_13 (fun H locs hP hD hS => ?_)
      have hP : va_P G.1 vwCl [(a, .inl (G.2.1, n, .inl (upd f i.toNatClampNeg v)))] H := hP
      have hD : va_D A [(a, .inl (G.2.1, n, .inl (upd f i.toNatClampNeg v)))] := hD
      exact wr_vret hx hb hr hlk hS hP (by first | with_reducible rfl | (simp only [put_, h1_1, h7_2, ↓reduceIte]; done)) dX6_put_14

set_option maxHeartbeats 4000000 in
set_option maxRecDepth 100000 in
theorem k_X6_remainder (l : Launch) (G : GT) (d q : Int32) : Rd l yX6_remainder wsX6_remainder { frames := 0, cells := 0, slots := 0, locals := 0 } G ([] : va_W) [.int d, .int q] (.int (rem_ d q)) := by
  refine Met.ofW (cc := cX6_remainder) (maxL := 2) (ret := (some .int)) (by decide) rfl ?_
  intro p e s m args below meth c s₁ B hml hv
  obtain ⟨rfl, hP, hY⟩ := hv
  have hx := B.exec
  have hb := B.bytes
  have hr := B.returns
  have hts := atoms_spec (ws := wsX6_remainder) B.pre
  have hown : s.vm.findClass RX6 = some m.cls := findClass_of_methodNamed B.named
  have hlk := B.notSynchronized
  have CF : CallFix p m c cX6_remainder 2 s _ wsX6_remainder RX6 := ⟨hx, hb, hml, hown, hts⟩
  have hl := lv_entry ([.int d, .int q]) (n := 2) (Nat.le_of_ble_eq_true rfl)
  rw [lg_entry_eq]
  generalize (lg_sl ([.int d, .int q]) ++ List.replicate (2 - (lg_sl ([.int d, .int q])).length) Slot.unset).toArray = ls at hl ⊢
  have hl : lv_has ls 2 [(0, .int d), (1, .int q)] := hl
  refine lv_iload_n hx hb dX6_remainder_0 rfl (lv_at hl 1 rfl) ?_
  refine lv_if_le (tgt := 10) hx hb dX6_remainder_1 (by decide) (fun h1_1 => ?_) (fun h1_1 => ?_)
  · refine lv_iconst (v := 0) hx hb dX6_remainder_10 (by decide) ?_
    exact rd_iret hx hb hr hlk (by first | with_reducible rfl | (simp only [rem_, h1_1, ↓reduceIte]; done)) dX6_remainder_11
  · refine lv_iload_n hx hb dX6_remainder_4 rfl (lv_at hl 0 rfl) ?_
    refine lv_iload_n hx hb dX6_remainder_5 rfl (lv_at hl 1 rfl) ?_
    refine lv_irem hx hb dX6_remainder_6 (fun h0 => h1_1 (by rw [h0]; decide)) ?_
    refine lv_goto (tgt := 11) hx hb dX6_remainder_7 (by decide) ?_
    exact rd_iret hx hb hr hlk (by first | with_reducible rfl | (simp only [rem_, h1_1, ↓reduceIte]; done)) dX6_remainder_11

set_option maxHeartbeats 4000000 in
set_option maxRecDepth 100000 in
theorem k_X6_quotient (l : Launch) (G : GT) (v d : Int64) : Rd l yX6_quotient wsX6_quotient { frames := 0, cells := 0, slots := 0, locals := 0 } G ([] : va_W) [.long v, .long d] (.long (quo_ v d)) := by
  refine Met.ofW (cc := cX6_quotient) (maxL := 4) (ret := (some .long)) (by decide) rfl ?_
  intro p e s m args below meth c s₁ B hml hv
  obtain ⟨rfl, hP, hY⟩ := hv
  have hx := B.exec
  have hb := B.bytes
  have hr := B.returns
  have hts := atoms_spec (ws := wsX6_quotient) B.pre
  have hown : s.vm.findClass RX6 = some m.cls := findClass_of_methodNamed B.named
  have hlk := B.notSynchronized
  have CF : CallFix p m c cX6_quotient 4 s _ wsX6_quotient RX6 := ⟨hx, hb, hml, hown, hts⟩
  have hl := lv_entry ([.long v, .long d]) (n := 4) (Nat.le_of_ble_eq_true rfl)
  rw [lg_entry_eq]
  generalize (lg_sl ([.long v, .long d]) ++ List.replicate (4 - (lg_sl ([.long v, .long d])).length) Slot.unset).toArray = ls at hl ⊢
  have hl : lv_has ls 4 [(0, .long v), (2, .long d)] := hl
  refine lv_lload_n hx hb dX6_quotient_0 rfl (lv_at hl 1 rfl) ?_
  refine lv_lconst (v := 0) hx hb dX6_quotient_1 (by decide) ?_
  refine W.lcmp hx hb dX6_quotient_2 ?_
  refine lv_if_le (tgt := 12) hx hb dX6_quotient_3 (by decide) (fun h3_1 => ?_) (fun h3_1 => ?_)
  · refine lv_lconst (v := 0) hx hb dX6_quotient_12 (by decide) ?_
    exact rd_lret hx hb hr hlk (by first | with_reducible rfl | (simp only [quo_, h3_1, ↓reduceIte]; done)) dX6_quotient_13
  · refine lv_lload_n hx hb dX6_quotient_6 rfl (lv_at hl 0 rfl) ?_
    refine lv_lload_n hx hb dX6_quotient_7 rfl (lv_at hl 1 rfl) ?_
    refine lv_ldiv hx hb dX6_quotient_8 (fun h0 => h3_1 (by rw [h0]; decide)) ?_
    refine lv_goto (tgt := 13) hx hb dX6_quotient_9 (by decide) ?_
    exact rd_lret hx hb hr hlk (by first | with_reducible rfl | (simp only [quo_, h3_1, ↓reduceIte]; done)) dX6_quotient_13

set_option maxHeartbeats 4000000 in
set_option maxRecDepth 100000 in
theorem k_X6_insert (l : Launch) (G : GT) (n : Nat) (a : Nat) (f : Nat → Int32) (pl en va : Int32) (hn : n < 2147483648) : Wr l yX6_insert wsX6_insert { frames := 1, cells := 0, slots := 0, locals := 22 } G [(a, .inl (G.2.1, n, .inl f))] [(a, .inl (G.2.1, n, .inl (ins_ n f pl en va)))] [.ref a, .int pl, .int en, .int va] none := by
  intro sz
  refine Met.ofW (cc := cX6_insert) (maxL := 5) (ret := none) (by decide) rfl ?_
  intro p e s m args below meth c s₁ B hml hv
  obtain ⟨rfl, hsz, hP, hY, hD0⟩ := hv
  subst hsz
  have hD := hD0.self (sz := s.heap.size)
  generalize hAe : va_A [(a, .inl (G.2.1, n, .inl f))] s.heap.size = A at hD ⊢
  have hA : ∀ q : Nat, s.heap.size ≤ q → A q := fun q h => by rw [← hAe]; exact Or.inr h
  have hS : va_S A s.heap s.heap [] := va_S.rf
  have hx := B.exec
  have hb := B.bytes
  have hr := B.returns
  have hts := atoms_spec (ws := wsX6_insert) B.pre
  have hown : s.vm.findClass RX6 = some m.cls := findClass_of_methodNamed B.named
  have hlk := B.notSynchronized
  have CF : CallFix p m c cX6_insert 5 s _ wsX6_insert RX6 := ⟨hx, hb, hml, hown, hts⟩
  have hl := lv_entry ([.ref a, .int pl, .int en, .int va]) (n := 5) (Nat.le_of_ble_eq_true rfl)
  rw [lg_entry_eq]
  generalize (lg_sl ([.ref a, .int pl, .int en, .int va]) ++ List.replicate (5 - (lg_sl ([.ref a, .int pl, .int en, .int va])).length) Slot.unset).toArray = ls at hl ⊢
  have hl : lv_has ls 5 [(0, .ref a), (1, .int pl), (2, .int en), (3, .int va)] := hl
  refine lv_iload_n hx hb dX6_insert_0 rfl (lv_at hl 2 rfl) ?_
  refine lv_iconst (v := 1) hx hb dX6_insert_1 (by decide) ?_
  refine lv_isub hx hb dX6_insert_2 ?_
  refine lv_istore (lv' := [(4, .int (en - 1)), (0, .ref a), (1, .int pl), (2, .int en), (3, .int va)]) hx hb dX6_insert_3 hl (by decide) rfl (fun ls hl => ?_)
  have loop1 : ∀ (fu : Nat) (i : Int32) (f2 : Nat → Int32), (i.toInt - pl.toInt).toNat < fu → insL n pl fu i f2 = insL n pl ((((en - 1)).toInt - pl.toInt).toNat + 1) (en - 1) f → ∀ (H : Heap) (locs : List Loc) (ls : Array Slot), va_P G.1 vwCl [(a, .inl (G.2.1, n, .inl f2))] H → va_D A [(a, .inl (G.2.1, n, .inl f2))] → va_S A s.heap H locs → lv_has ls 5 [(4, .int i), (0, .ref a), (1, .int pl), (2, .int en), (3, .int va)] → W p l e (headSpec wsX6_insert { frames := 1, cells := 0, slots := 0, locals := 22 }).room s m ([.ref a, .int pl, .int en, .int va] : List Value).toArray below meth c H locs 0 0 (MQ below (WQ none G [(a, .inl (G.2.1, n, .inl (ins_ n f pl en va)))] A) ([.ref a, .int pl, .int en, .int va] : List Value).toArray s 0 0 A) (F0 m 5 ls []) := by
    intro fu
    induction fu with
    | zero => intro i f2 hm; exact absurd hm (Nat.not_lt_zero _)
    | succ fu ih =>
      intro i f2 hm hR1  H locs ls hP hD hS hl
      refine lv_iload hx hb dX6_insert_5 (lv_at hl 0 rfl) ?_
      refine lv_iload_n hx hb dX6_insert_7 rfl (lv_at hl 2 rfl) ?_
      refine lv_icmp_le (tgt := 31) hx hb dX6_insert_8 (by decide) (fun h8_1 => ?_) (fun h8_1 => ?_)
      · refine lv_aload_n hx hb dX6_insert_31 rfl (lv_at hl 1 rfl) ?_
        refine lv_iload_n hx hb dX6_insert_32 rfl (lv_at hl 2 rfl) ?_
        refine lv_iload_n hx hb dX6_insert_33 rfl (lv_at hl 4 rfl) ?_
        refine wrS [] [(a, .inl (G.2.1, n, .inl f2))] [] [(a, .inl (G.2.1, n, .inl (put_ n f2 pl va)))] (As := [.ref a, .int pl, .int va]) (rest := []) CF (k_X6_put l G n a f2 pl va hn) (va_cwS 3 hts gX6_insert_X6_put rfl rfl rfl (by decide +kernel) ⟨Nat.le_of_ble_eq_true rfl, Nat.le_of_ble_eq_true rfl⟩) hP hD hS hA hY rfl rfl hl.1 rfl (lv_room (Nat.le_of_ble_eq_true rfl)) dX6_insert_34 ⟨Nat.zero_le _, Nat.zero_le _⟩ (fun H locs hP hD hS => ?_)
        have hP : va_P G.1 vwCl [(a, .inl (G.2.1, n, .inl (put_ n f2 pl va)))] H := hP
        have hD : va_D A [(a, .inl (G.2.1, n, .inl (put_ n f2 pl va)))] := hD
        exact wr_vret hx hb hr hlk hS hP (by first | (simp only [ins_, h8_1, ↓reduceIte]; done) | (simp only [ins_, h8_1, ↓reduceIte]; rw [← hR1]; simp only [insL, h8_1, ↓reduceIte]) | (rw [← hR1]; simp only [insL, h8_1, ↓reduceIte])) dX6_insert_37
      · refine lv_aload_n hx hb dX6_insert_11 rfl (lv_at hl 1 rfl) ?_
        refine lv_iload hx hb dX6_insert_12 (lv_at hl 0 rfl) ?_
        refine lv_aload_n hx hb dX6_insert_14 rfl (lv_at hl 1 rfl) ?_
        refine lv_iload hx hb dX6_insert_15 (lv_at hl 0 rfl) ?_
        refine lv_iconst (v := 1) hx hb dX6_insert_17 (by decide) ?_
        refine lv_isub hx hb dX6_insert_18 ?_
        refine rdS (w0 := [(a, .inl (G.2.1, n, .inl f2))]) (As := [.ref a, .int (i - 1)]) (rest := [.int i, .ref a]) CF (k_X6_at l G n a f2 (i - 1) hn) (va_cwS 2 hts gX6_insert_X6_at rfl rfl rfl (by decide +kernel) ⟨Nat.le_of_ble_eq_true rfl, Nat.le_of_ble_eq_true rfl⟩) hP hY rfl hl.1 rfl (lv_room (Nat.le_of_ble_eq_true rfl)) dX6_insert_19 ⟨Nat.zero_le _, Nat.zero_le _⟩ ?_
        refine wrS [] [(a, .inl (G.2.1, n, .inl f2))] [] [(a, .inl (G.2.1, n, .inl (put_ n f2 i (at_ n f2 (i - 1)))))] (As := [.ref a, .int i, .int (at_ n f2 (i - 1))]) (rest := []) CF (k_X6_put l G n a f2 i (at_ n f2 (i - 1)) hn) (va_cwS 3 hts gX6_insert_X6_put rfl rfl rfl (by decide +kernel) ⟨Nat.le_of_ble_eq_true rfl, Nat.le_of_ble_eq_true rfl⟩) hP hD hS hA hY rfl rfl hl.1 rfl (lv_room (Nat.le_of_ble_eq_true rfl)) dX6_insert_22 ⟨Nat.zero_le _, Nat.zero_le _⟩ (fun H locs hP hD hS => ?_)
        have hP : va_P G.1 vwCl [(a, .inl (G.2.1, n, .inl (put_ n f2 i (at_ n f2 (i - 1)))))] H := hP
        have hD : va_D A [(a, .inl (G.2.1, n, .inl (put_ n f2 i (at_ n f2 (i - 1)))))] := hD
        refine lv_iinc (v := i + (-1)) (lv' := [(4, .int (i + (-1))), (0, .ref a), (1, .int pl), (2, .int en), (3, .int va)]) hx hb dX6_insert_25 hl (k := 0) rfl rfl (by decide) rfl (fun ls hl => ?_)
        refine lv_goto (tgt := 5) hx hb dX6_insert_28 (by decide) ?_
        exact ih (i + (-1)) (put_ n f2 i (at_ n f2 (i - 1))) (ms_dn h8_1 hm) (by rw [← hR1]; simp only [insL, h8_1, ↓reduceIte])  _ _ ls hP hD hS (lv_sub hl [0, 1, 2, 3, 4] rfl)
  exact loop1 _ (en - 1) f (Nat.lt_succ_self _) rfl  _ _ ls hP hD hS (lv_sub hl [0, 1, 2, 3, 4] rfl)
end
section
set_option maxHeartbeats 4000000 in
set_option maxRecDepth 100000 in
theorem k_X4_startAgain (l : Launch) (G : GT) (ad : Nat → Nat) (o : Nat) (r : ResT) (k2 : Int32) : Wr l yX4_startAgain wsX4_startAgain { frames := 0, cells := 0, slots := 0, locals := 0 } G (wRes G ad o r) (wRes G ad o (resStart k2 r)) [.ref (ad o), .int k2] none := by
  intro sz
  obtain ⟨k, gv, fa, ha⟩ := r
  refine Met.ofW (cc := cX4_startAgain) (maxL := 2) (ret := none) (by decide) rfl ?_
  intro p e s m args below meth c s₁ B hml hv
  obtain ⟨rfl, hsz, hP, hY, hD0⟩ := hv
  subst hsz
  have hD := hD0.self (sz := s.heap.size)
  generalize hAe : va_A (wRes G ad o (k, gv, fa, ha)) s.heap.size = A at hD ⊢
  have hA : ∀ q : Nat, s.heap.size ≤ q → A q := fun q h => by rw [← hAe]; exact Or.inr h
  have hS : va_S A s.heap s.heap [] := va_S.rf
  have hx := B.exec
  have hb := B.bytes
  have hr := B.returns
  have hts := atoms_spec (ws := wsX4_startAgain) B.pre
  have hown : s.vm.findClass RX4 = some m.cls := findClass_of_methodNamed B.named
  have hlk := B.notSynchronized
  have CF : CallFix p m c cX4_startAgain 2 s _ wsX4_startAgain RX4 := ⟨hx, hb, hml, hown, hts⟩
  have hiX4 : ∀ w ∈ wsX40, w ∈ wsX4_startAgain := by decide +kernel
  have kf18 := hts (.fieldLink RX4 18 "ReservoirReed$Reservoir" "size" "I") (by decide +kernel)
  have kf22 := hts (.fieldLink RX4 22 "ReservoirReed$Reservoir" "given" "I") (by decide +kernel)
  have hl := lv_entry ([.ref (ad o), .int k2]) (n := 2) (Nat.le_of_ble_eq_true rfl)
  rw [lg_entry_eq]
  generalize (lg_sl ([.ref (ad o), .int k2]) ++ List.replicate (2 - (lg_sl ([.ref (ad o), .int k2])).length) Slot.unset).toArray = ls at hl ⊢
  have hl : lv_has ls 2 [(0, .ref (ad o)), (1, .int k2)] := hl
  refine lv_aload_n hx hb dX4_startAgain_0 rfl (lv_at hl 0 rfl) ?_
  refine lv_iload_n hx hb dX4_startAgain_1 rfl (lv_at hl 1 rfl) ?_
  refine va_put (D := G.1) (ci := 4) (v := .int k2) (ty := .int) (C := RX4) (T := TX4) (N := 4) hx hb hts hiX4 tyX4 tyX4_ok nmX4 hown hY.1 hP hD hS 0 rfl rfl 2 (by decide) kf18 (fun _ h9 => h9) rfl (by decide +kernel) rfl rfl (Nat.le_of_ble_eq_true rfl) dX4_startAgain_2 (fun H locs hP hD hS => ?_)
  have hP : va_P G.1 vwCl (wRes G ad o (k2, gv, fa, ha)) H := hP
  have hD : va_D A (wRes G ad o (k2, gv, fa, ha)) := hD
  refine lv_aload_n hx hb dX4_startAgain_5 rfl (lv_at hl 0 rfl) ?_
  refine lv_iconst (v := 0) hx hb dX4_startAgain_6 (by decide) ?_
  refine va_put (D := G.1) (ci := 4) (v := .int 0) (ty := .int) (C := RX4) (T := TX4) (N := 4) hx hb hts hiX4 tyX4 tyX4_ok nmX4 hown hY.1 hP hD hS 0 rfl rfl 3 (by decide) kf22 (fun _ h9 => h9) rfl (by decide +kernel) rfl rfl (Nat.le_of_ble_eq_true rfl) dX4_startAgain_7 (fun H locs hP hD hS => ?_)
  have hP : va_P G.1 vwCl (wRes G ad o (k2, 0, fa, ha)) H := hP
  have hD : va_D A (wRes G ad o (k2, 0, fa, ha)) := hD
  exact wr_vret hx hb hr hlk hS hP (by first | with_reducible rfl | (simp only [resStart, ↓reduceIte]; done)) dX4_startAgain_10

set_option maxHeartbeats 4000000 in
set_option maxRecDepth 100000 in
theorem k_X4_give (l : Launch) (G : GT) (ad : Nat → Nat) (o : Nat) (r : ResT) (it po di : Int32) : Wr l yX4_give wsX4_give { frames := 1, cells := 0, slots := 0, locals := 22 } G (wRes G ad o r) (wRes G ad o (resGive r it po di)) [.ref (ad o), .int it, .int po, .int di] none := by
  intro sz
  obtain ⟨k, gv, fa, ha⟩ := r
  refine Met.ofW (cc := cX4_give) (maxL := 5) (ret := none) (by decide) rfl ?_
  intro p e s m args below meth c s₁ B hml hv
  obtain ⟨rfl, hsz, hP, hY, hD0⟩ := hv
  subst hsz
  have hD := hD0.self (sz := s.heap.size)
  generalize hAe : va_A (wRes G ad o (k, gv, fa, ha)) s.heap.size = A at hD ⊢
  have hA : ∀ q : Nat, s.heap.size ≤ q → A q := fun q h => by rw [← hAe]; exact Or.inr h
  have hS : va_S A s.heap s.heap [] := va_S.rf
  have hx := B.exec
  have hb := B.bytes
  have hr := B.returns
  have hts := atoms_spec (ws := wsX4_give) B.pre
  have hown : s.vm.findClass RX4 = some m.cls := findClass_of_methodNamed B.named
  have hlk := B.notSynchronized
  have CF : CallFix p m c cX4_give 5 s _ wsX4_give RX4 := ⟨hx, hb, hml, hown, hts⟩
  have hiX4 : ∀ w ∈ wsX40, w ∈ wsX4_give := by decide +kernel
  have kf22 := hts (.fieldLink RX4 22 "ReservoirReed$Reservoir" "given" "I") (by decide +kernel)
  have kf18 := hts (.fieldLink RX4 18 "ReservoirReed$Reservoir" "size" "I") (by decide +kernel)
  have knRX6 := hts (.initialized RX6) (by decide +kernel)
  have ks_X6_remainder := hts (.static yX6_remainder) (by decide +kernel)
  have kf9 := hts (.fieldLink RX4 9 "ReservoirReed$Reservoir" "items" "[I") (by decide +kernel)
  have ks_X6_put := hts (.static yX6_put) (by decide +kernel)
  have kf15 := hts (.fieldLink RX4 15 "ReservoirReed$Reservoir" "positions" "[I") (by decide +kernel)
  have hl := lv_entry ([.ref (ad o), .int it, .int po, .int di]) (n := 5) (Nat.le_of_ble_eq_true rfl)
  rw [lg_entry_eq]
  generalize (lg_sl ([.ref (ad o), .int it, .int po, .int di]) ++ List.replicate (5 - (lg_sl ([.ref (ad o), .int it, .int po, .int di])).length) Slot.unset).toArray = ls at hl ⊢
  have hl : lv_has ls 5 [(0, .ref (ad o)), (1, .int it), (2, .int po), (3, .int di)] := hl
  refine lv_aload_n hx hb dX4_give_0 rfl (lv_at hl 0 rfl) ?_
  refine lv_dup hx hb dX4_give_1 rfl ?_
  refine va_get (D := G.1) (ci := 4) (v := .int gv) (C := RX4) (T := TX4) (N := 4) hx hb hts hiX4 hown hY.1 hP 0 rfl rfl 3 (by decide) kf22 (fun _ h9 => h9) rfl dX4_give_2 ?_
  refine lv_iconst (v := 1) hx hb dX4_give_5 (by decide) ?_
  refine lv_iadd hx hb dX4_give_6 ?_
  refine va_put (D := G.1) (ci := 4) (v := .int (gv + 1)) (ty := .int) (C := RX4) (T := TX4) (N := 4) hx hb hts hiX4 tyX4 tyX4_ok nmX4 hown hY.1 hP hD hS 0 rfl rfl 3 (by decide) kf22 (fun _ h9 => h9) rfl (by decide +kernel) rfl rfl (Nat.le_of_ble_eq_true rfl) dX4_give_7 (fun H locs hP hD hS => ?_)
  have hP : va_P G.1 vwCl (wRes G ad o (k, gv + 1, fa, ha)) H := hP
  have hD : va_D A (wRes G ad o (k, gv + 1, fa, ha)) := hD
  refine lv_aload_n hx hb dX4_give_10 rfl (lv_at hl 0 rfl) ?_
  refine va_get (D := G.1) (ci := 4) (v := .int (gv + 1)) (C := RX4) (T := TX4) (N := 4) hx hb hts hiX4 hown hY.1 hP 0 rfl rfl 3 (by decide) kf22 (fun _ h9 => h9) rfl dX4_give_11 ?_
  refine lv_aload_n hx hb dX4_give_14 rfl (lv_at hl 0 rfl) ?_
  refine va_get (D := G.1) (ci := 4) (v := .int k) (C := RX4) (T := TX4) (N := 4) hx hb hts hiX4 hown hY.1 hP 0 rfl rfl 2 (by decide) kf18 (fun _ h9 => h9) rfl dX4_give_15 ?_
  refine lv_icmp_gt (tgt := 30) hx hb dX4_give_18 (by decide) (fun h18_1 => ?_) (fun h18_1 => ?_)
  · refine lv_iload_n hx hb dX4_give_30 rfl (lv_at hl 3 rfl) ?_
    refine lv_aload_n hx hb dX4_give_31 rfl (lv_at hl 0 rfl) ?_
    refine va_get (D := G.1) (ci := 4) (v := .int (gv + 1)) (C := RX4) (T := TX4) (N := 4) hx hb hts hiX4 hown hY.1 hP 0 rfl rfl 3 (by decide) kf22 (fun _ h9 => h9) rfl dX4_give_32 ?_
    refine rdSN (w0 := ([] : va_W)) (As := [.int di, .int (gv + 1)]) (rest := []) CF (k_X6_remainder l G di (gv + 1)) ⟨va_cnB 2 hts gX4_give_X6_remainder_n25 rfl rfl rfl (hY.2.1 (.methodLinkNest RX4 25 yX6_remainder RX6) (List.mem_of_getElem? (i := 32) rfl)) knRX6 (by decide +kernel) ⟨Nat.le_of_ble_eq_true rfl, Nat.le_of_ble_eq_true rfl⟩, ks_X6_remainder, trivial⟩ va_P_nil hY rfl hl.1 rfl (lv_room (Nat.le_of_ble_eq_true rfl)) dX4_give_35 ⟨Nat.zero_le _, Nat.zero_le _⟩ ?_
    refine lv_istore (lv' := [(4, .int (rem_ di (gv + 1))), (0, .ref (ad o)), (1, .int it), (2, .int po), (3, .int di)]) hx hb dX4_give_38 hl (by decide) rfl (fun ls hl => ?_)
    refine lv_iload hx hb dX4_give_40 (lv_at hl 0 rfl) ?_
    refine lv_aload_n hx hb dX4_give_42 rfl (lv_at hl 1 rfl) ?_
    refine va_get (D := G.1) (ci := 4) (v := .int k) (C := RX4) (T := TX4) (N := 4) hx hb hts hiX4 hown hY.1 hP 0 rfl rfl 2 (by decide) kf18 (fun _ h9 => h9) rfl dX4_give_43 ?_
    refine lv_icmp_ge (tgt := 69) hx hb dX4_give_46 (by decide) (fun h46_2 => ?_) (fun h46_2 => ?_)
    · exact wr_vret hx hb hr hlk hS hP (by first | with_reducible rfl | (simp only [resGive, h18_1, h46_2, ↓reduceIte]; done)) dX4_give_69
    · refine lv_aload_n hx hb dX4_give_49 rfl (lv_at hl 1 rfl) ?_
      refine va_get (D := G.1) (ci := 4) (v := .ref (ad (o+1))) (C := RX4) (T := TX4) (N := 4) hx hb hts hiX4 hown hY.1 hP 0 rfl rfl 0 (by decide) kf9 (fun _ h9 => h9) rfl dX4_give_50 ?_
      refine lv_iload hx hb dX4_give_53 (lv_at hl 0 rfl) ?_
      refine lv_iload_n hx hb dX4_give_55 rfl (lv_at hl 2 rfl) ?_
      refine wrSN (List.take 1 (wRes G ad o (k, gv + 1, fa, ha))) [(ad (o+1), .inl (G.2.1, 16, .inl fa))] (List.drop 2 (wRes G ad o (k, gv + 1, fa, ha))) [(ad (o+1), .inl (G.2.1, 16, .inl (put_ 16 fa (rem_ di (gv + 1)) it)))] (As := [.ref (ad (o+1)), .int (rem_ di (gv + 1)), .int it]) (rest := []) CF (k_X6_put l G 16 (ad (o+1)) fa (rem_ di (gv + 1)) it (by decide)) ⟨va_cnB 3 hts gX4_give_X6_put_n29 rfl rfl rfl (hY.2.1 (.methodLinkNest RX4 29 yX6_put RX6) (List.mem_of_getElem? (i := 33) rfl)) knRX6 (by decide +kernel) ⟨Nat.le_of_ble_eq_true rfl, Nat.le_of_ble_eq_true rfl⟩, ks_X6_put, trivial⟩ hP hD hS hA hY rfl rfl hl.1 rfl (lv_room (Nat.le_of_ble_eq_true rfl)) dX4_give_56 ⟨Nat.zero_le _, Nat.zero_le _⟩ (fun H locs hP hD hS => ?_)
      have hP : va_P G.1 vwCl (wRes G ad o (k, gv + 1, put_ 16 fa (rem_ di (gv + 1)) it, ha)) H := hP
      have hD : va_D A (wRes G ad o (k, gv + 1, put_ 16 fa (rem_ di (gv + 1)) it, ha)) := hD
      refine lv_aload_n hx hb dX4_give_59 rfl (lv_at hl 1 rfl) ?_
      refine va_get (D := G.1) (ci := 4) (v := .ref (ad (o+2))) (C := RX4) (T := TX4) (N := 4) hx hb hts hiX4 hown hY.1 hP 0 rfl rfl 1 (by decide) kf15 (fun _ h9 => h9) rfl dX4_give_60 ?_
      refine lv_iload hx hb dX4_give_63 (lv_at hl 0 rfl) ?_
      refine lv_iload_n hx hb dX4_give_65 rfl (lv_at hl 3 rfl) ?_
      refine wrSN (List.take 2 (wRes G ad o (k, gv + 1, put_ 16 fa (rem_ di (gv + 1)) it, ha))) [(ad (o+2), .inl (G.2.1, 16, .inl ha))] [] [(ad (o+2), .inl (G.2.1, 16, .inl (put_ 16 ha (rem_ di (gv + 1)) po)))] (As := [.ref (ad (o+2)), .int (rem_ di (gv + 1)), .int po]) (rest := []) CF (k_X6_put l G 16 (ad (o+2)) ha (rem_ di (gv + 1)) po (by decide)) ⟨va_cnB 3 hts gX4_give_X6_put_n29 rfl rfl rfl (hY.2.1 (.methodLinkNest RX4 29 yX6_put RX6) (List.mem_of_getElem? (i := 33) rfl)) knRX6 (by decide +kernel) ⟨Nat.le_of_ble_eq_true rfl, Nat.le_of_ble_eq_true rfl⟩, ks_X6_put, trivial⟩ hP hD hS hA hY rfl rfl hl.1 rfl (lv_room (Nat.le_of_ble_eq_true rfl)) dX4_give_66 ⟨Nat.zero_le _, Nat.zero_le _⟩ (fun H locs hP hD hS => ?_)
      have hP : va_P G.1 vwCl (wRes G ad o (k, gv + 1, put_ 16 fa (rem_ di (gv + 1)) it, put_ 16 ha (rem_ di (gv + 1)) po)) H := hP
      have hD : va_D A (wRes G ad o (k, gv + 1, put_ 16 fa (rem_ di (gv + 1)) it, put_ 16 ha (rem_ di (gv + 1)) po)) := hD
      exact wr_vret hx hb hr hlk hS hP (by first | with_reducible rfl | (simp only [resGive, h18_1, h46_2, ↓reduceIte]; done)) dX4_give_69
  · refine lv_aload_n hx hb dX4_give_21 rfl (lv_at hl 0 rfl) ?_
    refine va_get (D := G.1) (ci := 4) (v := .int (gv + 1)) (C := RX4) (T := TX4) (N := 4) hx hb hts hiX4 hown hY.1 hP 0 rfl rfl 3 (by decide) kf22 (fun _ h9 => h9) rfl dX4_give_22 ?_
    refine lv_iconst (v := 1) hx hb dX4_give_25 (by decide) ?_
    refine lv_isub hx hb dX4_give_26 ?_
    refine lv_goto (tgt := 38) hx hb dX4_give_27 (by decide) ?_
    refine lv_istore (lv' := [(4, .int ((gv + 1) - 1)), (0, .ref (ad o)), (1, .int it), (2, .int po), (3, .int di)]) hx hb dX4_give_38 hl (by decide) rfl (fun ls hl => ?_)
    refine lv_iload hx hb dX4_give_40 (lv_at hl 0 rfl) ?_
    refine lv_aload_n hx hb dX4_give_42 rfl (lv_at hl 1 rfl) ?_
    refine va_get (D := G.1) (ci := 4) (v := .int k) (C := RX4) (T := TX4) (N := 4) hx hb hts hiX4 hown hY.1 hP 0 rfl rfl 2 (by decide) kf18 (fun _ h9 => h9) rfl dX4_give_43 ?_
    refine lv_icmp_ge (tgt := 69) hx hb dX4_give_46 (by decide) (fun h46_3 => ?_) (fun h46_3 => ?_)
    · exact wr_vret hx hb hr hlk hS hP (by first | with_reducible rfl | (simp only [resGive, h18_1, h46_3, ↓reduceIte]; done)) dX4_give_69
    · refine lv_aload_n hx hb dX4_give_49 rfl (lv_at hl 1 rfl) ?_
      refine va_get (D := G.1) (ci := 4) (v := .ref (ad (o+1))) (C := RX4) (T := TX4) (N := 4) hx hb hts hiX4 hown hY.1 hP 0 rfl rfl 0 (by decide) kf9 (fun _ h9 => h9) rfl dX4_give_50 ?_
      refine lv_iload hx hb dX4_give_53 (lv_at hl 0 rfl) ?_
      refine lv_iload_n hx hb dX4_give_55 rfl (lv_at hl 2 rfl) ?_
      refine wrSN (List.take 1 (wRes G ad o (k, gv + 1, fa, ha))) [(ad (o+1), .inl (G.2.1, 16, .inl fa))] (List.drop 2 (wRes G ad o (k, gv + 1, fa, ha))) [(ad (o+1), .inl (G.2.1, 16, .inl (put_ 16 fa ((gv + 1) - 1) it)))] (As := [.ref (ad (o+1)), .int ((gv + 1) - 1), .int it]) (rest := []) CF (k_X6_put l G 16 (ad (o+1)) fa ((gv + 1) - 1) it (by decide)) ⟨va_cnB 3 hts gX4_give_X6_put_n29 rfl rfl rfl (hY.2.1 (.methodLinkNest RX4 29 yX6_put RX6) (List.mem_of_getElem? (i := 33) rfl)) knRX6 (by decide +kernel) ⟨Nat.le_of_ble_eq_true rfl, Nat.le_of_ble_eq_true rfl⟩, ks_X6_put, trivial⟩ hP hD hS hA hY rfl rfl hl.1 rfl (lv_room (Nat.le_of_ble_eq_true rfl)) dX4_give_56 ⟨Nat.zero_le _, Nat.zero_le _⟩ (fun H locs hP hD hS => ?_)
      have hP : va_P G.1 vwCl (wRes G ad o (k, gv + 1, put_ 16 fa ((gv + 1) - 1) it, ha)) H := hP
      have hD : va_D A (wRes G ad o (k, gv + 1, put_ 16 fa ((gv + 1) - 1) it, ha)) := hD
      refine lv_aload_n hx hb dX4_give_59 rfl (lv_at hl 1 rfl) ?_
      refine va_get (D := G.1) (ci := 4) (v := .ref (ad (o+2))) (C := RX4) (T := TX4) (N := 4) hx hb hts hiX4 hown hY.1 hP 0 rfl rfl 1 (by decide) kf15 (fun _ h9 => h9) rfl dX4_give_60 ?_
      refine lv_iload hx hb dX4_give_63 (lv_at hl 0 rfl) ?_
      refine lv_iload_n hx hb dX4_give_65 rfl (lv_at hl 3 rfl) ?_
      refine wrSN (List.take 2 (wRes G ad o (k, gv + 1, put_ 16 fa ((gv + 1) - 1) it, ha))) [(ad (o+2), .inl (G.2.1, 16, .inl ha))] [] [(ad (o+2), .inl (G.2.1, 16, .inl (put_ 16 ha ((gv + 1) - 1) po)))] (As := [.ref (ad (o+2)), .int ((gv + 1) - 1), .int po]) (rest := []) CF (k_X6_put l G 16 (ad (o+2)) ha ((gv + 1) - 1) po (by decide)) ⟨va_cnB 3 hts gX4_give_X6_put_n29 rfl rfl rfl (hY.2.1 (.methodLinkNest RX4 29 yX6_put RX6) (List.mem_of_getElem? (i := 33) rfl)) knRX6 (by decide +kernel) ⟨Nat.le_of_ble_eq_true rfl, Nat.le_of_ble_eq_true rfl⟩, ks_X6_put, trivial⟩ hP hD hS hA hY rfl rfl hl.1 rfl (lv_room (Nat.le_of_ble_eq_true rfl)) dX4_give_66 ⟨Nat.zero_le _, Nat.zero_le _⟩ (fun H locs hP hD hS => ?_)
      have hP : va_P G.1 vwCl (wRes G ad o (k, gv + 1, put_ 16 fa ((gv + 1) - 1) it, put_ 16 ha ((gv + 1) - 1) po)) H := hP
      have hD : va_D A (wRes G ad o (k, gv + 1, put_ 16 fa ((gv + 1) - 1) it, put_ 16 ha ((gv + 1) - 1) po)) := hD
      exact wr_vret hx hb hr hlk hS hP (by first | with_reducible rfl | (simp only [resGive, h18_1, h46_3, ↓reduceIte]; done)) dX4_give_69

set_option maxHeartbeats 4000000 in
set_option maxRecDepth 100000 in
theorem k_X4_filled (l : Launch) (G : GT) (ad : Nat → Nat) (o : Nat) (r : ResT) : Rd l yX4_filled wsX4_filled { frames := 2, cells := 0, slots := 0, locals := 30 } G (wRes G ad o r) [.ref (ad o)] (.int (resFilled r)) := by
  refine Met.ofW (cc := cX4_filled) (maxL := 1) (ret := (some .int)) (by decide) rfl ?_
  intro p e s m args below meth c s₁ B hml hv
  obtain ⟨rfl, hP, hY⟩ := hv
  have hx := B.exec
  have hb := B.bytes
  have hr := B.returns
  have hts := atoms_spec (ws := wsX4_filled) B.pre
  have hown : s.vm.findClass RX4 = some m.cls := findClass_of_methodNamed B.named
  have hlk := B.notSynchronized
  have CF : CallFix p m c cX4_filled 1 s _ wsX4_filled RX4 := ⟨hx, hb, hml, hown, hts⟩
  have hiX4 : ∀ w ∈ wsX40, w ∈ wsX4_filled := by decide +kernel
  have kf22 := hts (.fieldLink RX4 22 "ReservoirReed$Reservoir" "given" "I") (by decide +kernel)
  have kf18 := hts (.fieldLink RX4 18 "ReservoirReed$Reservoir" "size" "I") (by decide +kernel)
  have km1 := hts (.methodLink RX4 33 Lib.Math.min.name) (by decide +kernel)
  have km2 := hts (.static Lib.Math.min.name) (by decide +kernel)
  have km3 := hts (.initialized "java/lang/Math") (by decide +kernel)
  have km4 := hts (.code Lib.Math.min.name Lib.Math.min.code 2 (some .int)) (by decide +kernel)
  have hl := lv_entry ([.ref (ad o)]) (n := 1) (Nat.le_of_ble_eq_true rfl)
  rw [lg_entry_eq]
  generalize (lg_sl ([.ref (ad o)]) ++ List.replicate (1 - (lg_sl ([.ref (ad o)])).length) Slot.unset).toArray = ls at hl ⊢
  have hl : lv_has ls 1 [(0, .ref (ad o))] := hl
  refine lv_aload_n hx hb dX4_filled_0 rfl (lv_at hl 0 rfl) ?_
  refine va_get (D := G.1) (ci := 4) (v := .int r.2.1) (C := RX4) (T := TX4) (N := 4) hx hb hts hiX4 hown hY.1 hP 0 rfl rfl 3 (by decide) kf22 (fun _ h9 => h9) rfl dX4_filled_1 ?_
  refine lv_aload_n hx hb dX4_filled_4 rfl (lv_at hl 0 rfl) ?_
  refine va_get (D := G.1) (ci := 4) (v := .int r.1) (C := RX4) (T := TX4) (N := 4) hx hb hts hiX4 hown hY.1 hP 0 rfl rfl 2 (by decide) kf18 (fun _ h9 => h9) rfl dX4_filled_5 ?_
  refine va_mmin hx hb (hml.trans hl.1.symm) (index := 33) hown km1 km2 km3 km4 (Nat.le_of_ble_eq_true rfl) (Nat.le_of_ble_eq_true rfl) (Nat.zero_le _) (Nat.zero_le _) dX4_filled_8 ?_
  exact rd_iret hx hb hr hlk (by first | with_reducible rfl | (simp only [resFilled, ↓reduceIte]; done)) dX4_filled_11

set_option maxHeartbeats 4000000 in
set_option maxRecDepth 100000 in
theorem k_X2_startAgain (l : Launch) (G : GT) (ad : Nat → Nat) (o : Nat) (g : GrpT) (k2 : Int32) : Wr l yX2_startAgain wsX2_startAgain { frames := 1, cells := 0, slots := 0, locals := 21 } G (wGrp G ad o g) (wGrp G ad o (grpStart k2 g)) [.ref (ad o), .int k2] none := by
  intro sz
  obtain ⟨wt, r⟩ := g
  refine Met.ofW (cc := cX2_startAgain) (maxL := 2) (ret := none) (by decide) rfl ?_
  intro p e s m args below meth c s₁ B hml hv
  obtain ⟨rfl, hsz, hP, hY, hD0⟩ := hv
  subst hsz
  have hD := hD0.self (sz := s.heap.size)
  generalize hAe : va_A (wGrp G ad o (wt, r)) s.heap.size = A at hD ⊢
  have hA : ∀ q : Nat, s.heap.size ≤ q → A q := fun q h => by rw [← hAe]; exact Or.inr h
  have hS : va_S A s.heap s.heap [] := va_S.rf
  have hx := B.exec
  have hb := B.bytes
  have hr := B.returns
  have hts := atoms_spec (ws := wsX2_startAgain) B.pre
  have hown : s.vm.findClass RX2 = some m.cls := findClass_of_methodNamed B.named
  have hlk := B.notSynchronized
  have CF : CallFix p m c cX2_startAgain 2 s _ wsX2_startAgain RX2 := ⟨hx, hb, hml, hown, hts⟩
  have hiX2 : ∀ w ∈ wsX20, w ∈ wsX2_startAgain := by decide +kernel
  have kf16 := hts (.fieldLink RX2 16 "ReservoirReed$Group" "weight" "I") (by decide +kernel)
  have kf10 := hts (.fieldLink RX2 10 "ReservoirReed$Group" "reservoir" "LReservoirReed$Reservoir;") (by decide +kernel)
  have hl := lv_entry ([.ref (ad o), .int k2]) (n := 2) (Nat.le_of_ble_eq_true rfl)
  rw [lg_entry_eq]
  generalize (lg_sl ([.ref (ad o), .int k2]) ++ List.replicate (2 - (lg_sl ([.ref (ad o), .int k2])).length) Slot.unset).toArray = ls at hl ⊢
  have hl : lv_has ls 2 [(0, .ref (ad o)), (1, .int k2)] := hl
  refine lv_aload_n hx hb dX2_startAgain_0 rfl (lv_at hl 0 rfl) ?_
  refine lv_iconst (v := 0) hx hb dX2_startAgain_1 (by decide) ?_
  refine va_put (D := G.1) (ci := 2) (v := .int 0) (ty := .int) (C := RX2) (T := TX2) (N := 2) hx hb hts hiX2 tyX2 tyX2_ok nmX2 hown hY.1 hP hD hS 0 rfl rfl 1 (by decide) kf16 (fun _ h9 => h9) rfl (by decide +kernel) rfl rfl (Nat.le_of_ble_eq_true rfl) dX2_startAgain_2 (fun H locs hP hD hS => ?_)
  have hP : va_P G.1 vwCl (wGrp G ad o (0, r)) H := hP
  have hD : va_D A (wGrp G ad o (0, r)) := hD
  refine lv_aload_n hx hb dX2_startAgain_5 rfl (lv_at hl 0 rfl) ?_
  refine va_get (D := G.1) (ci := 2) (v := .ref (ad (o+1))) (C := RX2) (T := TX2) (N := 2) hx hb hts hiX2 hown hY.1 hP 0 rfl rfl 0 (by decide) kf10 (fun _ h9 => h9) rfl dX2_startAgain_6 ?_
  refine lv_iload_n hx hb dX2_startAgain_9 rfl (lv_at hl 1 rfl) ?_
  refine wrV (List.take 1 (wGrp G ad o (0, r))) (wRes G ad (o+1) r) [] (wRes G ad (o+1) (resStart k2 r)) (As := [.int k2]) (rest := []) CF (k_X4_startAgain l G ad (o+1) r k2) (cwV 1 hts gX2_startAgain_X4_startAgain rfl rfl rfl (by decide +kernel) ⟨Nat.le_of_ble_eq_true rfl, Nat.le_of_ble_eq_true rfl⟩) hP hD hS hA hY rfl rfl rfl rfl hl.1 rfl (lv_room (Nat.le_of_ble_eq_true rfl)) dX2_startAgain_10 ⟨Nat.zero_le _, Nat.zero_le _⟩ (fun H locs hP hD hS => ?_)
  have hP : va_P G.1 vwCl (wGrp G ad o (0, resStart k2 r)) H := hP
  have hD : va_D A (wGrp G ad o (0, resStart k2 r)) := hD
  exact wr_vret hx hb hr hlk hS hP (by first | with_reducible rfl | (simp only [grpStart, ↓reduceIte]; done)) dX2_startAgain_13

set_option maxHeartbeats 4000000 in
set_option maxRecDepth 100000 in
theorem k_X2_give (l : Launch) (G : GT) (ad : Nat → Nat) (o : Nat) (g : GrpT) (it w po di : Int32) : Wr l yX2_give wsX2_give { frames := 2, cells := 0, slots := 0, locals := 46 } G (wGrp G ad o g) (wGrp G ad o (grpGive g it w po di)) [.ref (ad o), .int it, .int w, .int po, .int di] none := by
  intro sz
  obtain ⟨wt, r⟩ := g
  refine Met.ofW (cc := cX2_give) (maxL := 5) (ret := none) (by decide) rfl ?_
  intro p e s m args below meth c s₁ B hml hv
  obtain ⟨rfl, hsz, hP, hY, hD0⟩ := hv
  subst hsz
  have hD := hD0.self (sz := s.heap.size)
  generalize hAe : va_A (wGrp G ad o (wt, r)) s.heap.size = A at hD ⊢
  have hA : ∀ q : Nat, s.heap.size ≤ q → A q := fun q h => by rw [← hAe]; exact Or.inr h
  have hS : va_S A s.heap s.heap [] := va_S.rf
  have hx := B.exec
  have hb := B.bytes
  have hr := B.returns
  have hts := atoms_spec (ws := wsX2_give) B.pre
  have hown : s.vm.findClass RX2 = some m.cls := findClass_of_methodNamed B.named
  have hlk := B.notSynchronized
  have CF : CallFix p m c cX2_give 5 s _ wsX2_give RX2 := ⟨hx, hb, hml, hown, hts⟩
  have hiX2 : ∀ w ∈ wsX20, w ∈ wsX2_give := by decide +kernel
  have kf16 := hts (.fieldLink RX2 16 "ReservoirReed$Group" "weight" "I") (by decide +kernel)
  have kf10 := hts (.fieldLink RX2 10 "ReservoirReed$Group" "reservoir" "LReservoirReed$Reservoir;") (by decide +kernel)
  have hl := lv_entry ([.ref (ad o), .int it, .int w, .int po, .int di]) (n := 5) (Nat.le_of_ble_eq_true rfl)
  rw [lg_entry_eq]
  generalize (lg_sl ([.ref (ad o), .int it, .int w, .int po, .int di]) ++ List.replicate (5 - (lg_sl ([.ref (ad o), .int it, .int w, .int po, .int di])).length) Slot.unset).toArray = ls at hl ⊢
  have hl : lv_has ls 5 [(0, .ref (ad o)), (1, .int it), (2, .int w), (3, .int po), (4, .int di)] := hl
  refine lv_aload_n hx hb dX2_give_0 rfl (lv_at hl 0 rfl) ?_
  refine lv_dup hx hb dX2_give_1 rfl ?_
  refine va_get (D := G.1) (ci := 2) (v := .int wt) (C := RX2) (T := TX2) (N := 2) hx hb hts hiX2 hown hY.1 hP 0 rfl rfl 1 (by decide) kf16 (fun _ h9 => h9) rfl dX2_give_2 ?_
  refine lv_iload_n hx hb dX2_give_5 rfl (lv_at hl 2 rfl) ?_
  refine lv_iadd hx hb dX2_give_6 ?_
  refine va_put (D := G.1) (ci := 2) (v := .int (wt + w)) (ty := .int) (C := RX2) (T := TX2) (N := 2) hx hb hts hiX2 tyX2 tyX2_ok nmX2 hown hY.1 hP hD hS 0 rfl rfl 1 (by decide) kf16 (fun _ h9 => h9) rfl (by decide +kernel) rfl rfl (Nat.le_of_ble_eq_true rfl) dX2_give_7 (fun H locs hP hD hS => ?_)
  have hP : va_P G.1 vwCl (wGrp G ad o (wt + w, r)) H := hP
  have hD : va_D A (wGrp G ad o (wt + w, r)) := hD
  refine lv_aload_n hx hb dX2_give_10 rfl (lv_at hl 0 rfl) ?_
  refine va_get (D := G.1) (ci := 2) (v := .ref (ad (o+1))) (C := RX2) (T := TX2) (N := 2) hx hb hts hiX2 hown hY.1 hP 0 rfl rfl 0 (by decide) kf10 (fun _ h9 => h9) rfl dX2_give_11 ?_
  refine lv_iload_n hx hb dX2_give_14 rfl (lv_at hl 1 rfl) ?_
  refine lv_iload_n hx hb dX2_give_15 rfl (lv_at hl 3 rfl) ?_
  refine lv_iload hx hb dX2_give_16 (lv_at hl 4 rfl) ?_
  refine wrV (List.take 1 (wGrp G ad o (wt + w, r))) (wRes G ad (o+1) r) [] (wRes G ad (o+1) (resGive r it po di)) (As := [.int it, .int po, .int di]) (rest := []) CF (k_X4_give l G ad (o+1) r it po di) (cwV 3 hts gX2_give_X4_give rfl rfl rfl (by decide +kernel) ⟨Nat.le_of_ble_eq_true rfl, Nat.le_of_ble_eq_true rfl⟩) hP hD hS hA hY rfl rfl rfl rfl hl.1 rfl (lv_room (Nat.le_of_ble_eq_true rfl)) dX2_give_18 ⟨Nat.zero_le _, Nat.zero_le _⟩ (fun H locs hP hD hS => ?_)
  have hP : va_P G.1 vwCl (wGrp G ad o (wt + w, resGive r it po di)) H := hP
  have hD : va_D A (wGrp G ad o (wt + w, resGive r it po di)) := hD
  exact wr_vret hx hb hr hlk hS hP (by first | with_reducible rfl | (simp only [grpGive, ↓reduceIte]; done)) dX2_give_21
end
