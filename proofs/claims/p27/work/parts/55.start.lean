/-! what the tables say at the law's start -/
theorem nwL_in : ∀ w ∈ nwL, w ∈ lw_tbl := by
  intro w h
  have e : nwL = [85, 116, 111, 113, 166, 133, 138, 135, 141, 162, 164, 170, 72, 156, 45, 47, 70, 50, 195, 197, 34, 428, 434, 433, 419, 420, 422, 686, 68, 395, 401, 604, 368, 371, 63, 80, 106, 128, 40, 260, 346, 469].filterMap (fun i => lw_tbl[i]?) := by decide +kernel
  rw [e] at h
  obtain ⟨i, -, hi⟩ := List.mem_filterMap.mp h
  exact List.mem_of_getElem? hi
theorem nw_of {w : Cond} (h : isNw w = true) {A : Array Value} {U : State} (hb : w.before A U = true) : va_Nw w U := by
  cases w <;> first | exact va_Nw.of rfl hb | exact absurd h Bool.false_ne_true
theorem arr_of {ty : FieldType} {A : Array Value} {s : State} (h : (Cond.arrayClass ty).before A s = true) : ∃ cA, ArrOfT s cA ty ∧ s.vm.findClass ("[" ++ ty.toString) = some cA := by
  obtain ⟨cA, kA, comp, h1, h2, h3⟩ := Cond.arrayClass_spec h
  exact ⟨cA, fun n z => ⟨fun k h => (by cases h), kA, h2, comp, h3⟩, h1⟩
theorem str_of {own tx : String} {k cur : Nat} {A : Array Value} {s : State} (hcur : s.vm.findClass own = some cur) (h : (Cond.stringRef own k tx).before A s = true) : ∃ a, vk_R own k tx a s := by
  obtain ⟨-, -, -, a, -, -, -, -, -, hev⟩ := Cond.stringRef_spec hcur h
  exact ⟨a, vk_R.of h hev⟩
theorem hl0_of {l : Launch} (h : l.flags = flags0) : l.stackTraces = false := by
  unfold Launch.stackTraces
  rw [h]
  decide +kernel
set_option maxHeartbeats 4000000 in
set_option maxRecDepth 100000 in
theorem sy_of {s : State} {b : Nat} (hts0 : ∀ w ∈ lw_tbl, w.before #[Value.ref b] s = true) (hgv : (Jvm.Cond.and given_1 narrow_1).before #[Value.ref b] s = true) : ∃ G : GT, Sy G s ∧ Zs (fun q : Nat => s.heap.size ≤ q) s s.heap := by
  have hg := flat_of_before _ hgv
  obtain ⟨c0, i0, k0⟩ := u_known (C := RX0) (T := TX0) (N := 6) (n := 6) hts0 inX0 (hts0 (.instantiable RX0 6) (List.mem_append_right _ (List.mem_of_getElem? (i := 118) (by decide +kernel))))
  obtain ⟨c1, i1, k1⟩ := u_known (C := RX1) (T := TX1) (N := 4) (n := 4) hts0 inX1 (hts0 (.instantiable RX1 4) (List.mem_append_right _ (List.mem_of_getElem? (i := 96) (by decide +kernel))))
  obtain ⟨c2, i2, k2⟩ := u_known (C := RX2) (T := TX2) (N := 2) (n := 2) hts0 inX2 (hts0 (.instantiable RX2 2) (List.mem_append_right _ (List.mem_of_getElem? (i := 53) (by decide +kernel))))
  obtain ⟨c3, i3, k3⟩ := u_known (C := RX3) (T := TX3) (N := 6) (n := 6) hts0 inX3 (hts0 (.instantiable RX3 6) (List.mem_append_right _ (List.mem_of_getElem? (i := 70) (by decide +kernel))))
  obtain ⟨c4, i4, k4⟩ := u_known (C := RX4) (T := TX4) (N := 4) (n := 4) hts0 inX4 (hts0 (.instantiable RX4 4) (List.mem_append_right _ (List.mem_of_getElem? (i := 30) (by decide +kernel))))
  obtain ⟨c5, i5, k5⟩ := u_known (C := RX5) (T := TX5) (N := 11) (n := 11) hts0 inX5 (hts0 (.instantiable RX5 11) (List.mem_append_right _ (List.mem_of_getElem? (i := 24) (by decide +kernel))))
  obtain ⟨c6, i6, k6⟩ := u_known (C := RX6) (T := TX6) (N := 5) (n := 5) hts0 inX6 (hts0 (.instantiable RX6 5) (List.mem_append_right _ (List.mem_of_getElem? (i := 16) (by decide +kernel))))
  obtain ⟨dC, dI, hKc⟩ : ∃ (dC : Nat → ClassId) (dI : Nat → Nat → Nat), ∀ (k : Nat) (q : vw_C), vwCl[k]? = some q → u_Kn s q.1 q.2.1 q.2.2 (dC k) (dI k) := by
    refine ⟨fun k => if k = 0 then c0 else if k = 1 then c1 else if k = 2 then c2 else if k = 3 then c3 else if k = 4 then c4 else if k = 5 then c5 else c6, fun k => if k = 0 then i0 else if k = 1 then i1 else if k = 2 then i2 else if k = 3 then i3 else if k = 4 then i4 else if k = 5 then i5 else i6, ?_⟩
    intro k q hq
    match k, hq with
    | 0, hq => cases hq; exact k0
    | 1, hq => cases hq; exact k1
    | 2, hq => cases hq; exact k2
    | 3, hq => cases hq; exact k3
    | 4, hq => cases hq; exact k4
    | 5, hq => cases hq; exact k5
    | 6, hq => cases hq; exact k6
    | k + 7, hq => simp [vwCl] at hq
  obtain ⟨cI, a1, a2⟩ := arr_of (hts0 (.arrayClass .int) (List.mem_append_right _ (List.mem_of_getElem? (i := 51) (by decide +kernel))))
  refine ⟨((dC, dI), cI, cI, cI), ⟨⟨hKc, ?_⟩, fun w h => nw_of (nwL_ok w h) (hts0 w (nwL_in w h)), ?_, ?_⟩, ?_, ?_, ?_⟩
  · intro k q hq
    match k, hq with
    | 0, hq => cases hq; exact ⟨a1, a2⟩
    | k + 1, hq => simp [gTys] at hq
  · refine List.forall_mem_cons.mpr ⟨va_Nc.of (args := #[Value.ref b]) (hg _ (by decide +kernel)), List.forall_mem_cons.mpr ⟨va_Nc.of (args := #[Value.ref b]) (hg _ (by decide +kernel)), fun _ h => absurd h List.not_mem_nil⟩⟩
  · have hcur : s.vm.findClass RX6 = some c6 := k6.2.1
    refine List.forall_mem_cons.mpr ⟨str_of hcur (hts0 (.stringRef RX6 176 "an argument is out of range") (List.mem_append_right _ (List.mem_of_getElem? (i := 290) (by decide +kernel)))), List.forall_mem_cons.mpr ⟨str_of hcur (hts0 (.stringRef RX6 183 "the call is not possible now") (List.mem_append_right _ (List.mem_of_getElem? (i := 344) (by decide +kernel)))), List.forall_mem_cons.mpr ⟨str_of hcur (hts0 (.stringRef RX6 188 "there is no such place or slot") (List.mem_append_right _ (List.mem_of_getElem? (i := 467) (by decide +kernel)))), fun _ h => absurd h List.not_mem_nil⟩⟩⟩
  · exact vx_Zqof (hts0 (.laysStatic "java/lang/Throwable" "UNASSIGNED_STACK" "[Ljava/lang/StackTraceElement;") (List.mem_append_right _ (List.mem_of_getElem? (i := 276) (by decide +kernel)))) (hts0 (.initialized "java/lang/Throwable") (List.mem_append_right _ (List.mem_of_getElem? (i := 8) (by decide +kernel)))) (hg _ (by decide +kernel)) (fun a h => Nat.not_le.mpr h)
  · exact vx_Zqof (hts0 (.laysStatic "java/lang/Throwable" "SUPPRESSED_SENTINEL" "Ljava/util/List;") (List.mem_append_right _ (List.mem_of_getElem? (i := 278) (by decide +kernel)))) (hts0 (.initialized "java/lang/Throwable") (List.mem_append_right _ (List.mem_of_getElem? (i := 8) (by decide +kernel)))) (hg _ (by decide +kernel)) (fun a h => Nat.not_le.mpr h)
  · exact List.forall_mem_cons.mpr ⟨va_Nw.of rfl (hts0 (.declares (Bundle.initS "java/lang/RuntimeException")) (List.mem_append_right _ (List.mem_of_getElem? (i := 253) (by decide +kernel)))), List.forall_mem_cons.mpr ⟨va_Nw.of rfl (hts0 (.declares (Bundle.initS "java/lang/Exception")) (List.mem_append_right _ (List.mem_of_getElem? (i := 255) (by decide +kernel)))), List.forall_mem_cons.mpr ⟨va_Nw.of rfl (hts0 (.declares (Bundle.initS Bundle.tN)) (List.mem_append_right _ (List.mem_of_getElem? (i := 257) (by decide +kernel)))), fun _ h => absurd h List.not_mem_nil⟩⟩⟩
