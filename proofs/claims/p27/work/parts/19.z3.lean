/-! a writer of one block that reads another one, both anywhere in the caller's world -/
section BASE3
variable {p : Program} {l : Launch} {e : Env} {R : Room} {s : State} {m : MethodId} {args : Array Value} {below : List Frame} {meth : Method} {c : Code} {H : Heap} {locs : List Loc} {cells slots : Nat} {Q : State → Prop}
variable {y : MethodName} {bytes cc : ByteArray} {maxL nL n index pc ci N : Nat} {ret : Option FieldType} {wy : List Cond} {rm : Room} {Ts : List Cond} {own C host : String} {b : Addr} {As rest st0 av : List Value} {ls : Array Slot} {G : GT} {w0 w1 wa wc wb : va_W} {fs : List Value} {T : u_T} {v : Value} {ov : Option Value} {A : Nat → Prop} {H0 : Heap} {E : String}
theorem va_P.mem {w : va_W} : va_P G.1 vwCl w H ↔ ∀ q ∈ w, va_at G.1 vwCl q H := by
  constructor
  · intro h q hq
    obtain ⟨i, hi⟩ := List.getElem?_of_mem hq
    exact h i q hi
  · intro h k q hk
    exact h q (List.mem_of_getElem? hk)
theorem va_P.subm {w u : va_W} (hs : ∀ q ∈ u, q ∈ w) (h : va_P G.1 vwCl w H) : va_P G.1 vwCl u H := by
  rw [va_P.mem] at h ⊢
  exact fun q hq => h q (hs q hq)
theorem wr_join2 {u1 rd x z : va_W} {H1 : Heap} (hv : wa ++ wb = x ++ (rd ++ z)) (hP : va_P G.1 vwCl (wa ++ (wc ++ wb)) H) (hD : va_D A (wa ++ (wc ++ wb))) (hk : ∀ q : Nat, q < H.size → ¬ va_A (wc ++ rd) H.size q → H1[q]? = H[q]?) (hP1 : va_P G.1 vwCl (u1 ++ rd) H1) : va_P G.1 vwCl (wa ++ (u1 ++ wb)) H1 := by
  have hnd := (va_D.nodup.mp hD).1
  rw [va_P.mem] at hP hP1 ⊢
  have hp : ((wc ++ (wa ++ wb)).map Prod.fst).Nodup := by
    refine (List.Perm.nodup_iff ?_).mp hnd
    refine List.Perm.map _ ?_
    rw [← List.append_assoc wa wc wb, ← List.append_assoc wc wa wb]
    exact List.Perm.append_right wb List.perm_append_comm
  have keep : ∀ q ∈ wa ++ wb, va_at G.1 vwCl q H1 := by
    intro q hq
    have hq0 : va_at G.1 vwCl q H := hP q (by
      rcases List.mem_append.mp hq with h | h
      · exact List.mem_append_left _ h
      · exact List.mem_append_right _ (List.mem_append_right _ h))
    by_cases hA9 : va_A (wc ++ rd) H.size q.1
    · rcases hA9 with ⟨k, e9, hk9⟩ | h9
      · rcases List.mem_append.mp (List.mem_of_getElem? hk9) with h | h
        · rw [List.map_append] at hp
          exact absurd rfl ((List.nodup_append.mp hp).2.2 q.1 (List.mem_map.mpr ⟨_, h, rfl⟩) q.1 (List.mem_map.mpr ⟨q, hq, rfl⟩))
        · have hmem : (q.1, e9) ∈ wa ++ wb := by rw [hv]; exact List.mem_append_right _ (List.mem_append_left _ h)
          rw [List.map_append] at hp
          have hn2 := (List.nodup_append.mp hp).2.1
          obtain ⟨i, hi⟩ := List.getElem?_of_mem hq
          obtain ⟨j, hj⟩ := List.getElem?_of_mem hmem
          have hij : i = j := (va_D.nodup.mpr ⟨hn2, fun _ _ => trivial⟩ : va_D (fun _ => True) (wa ++ wb)).1 i j q _ hi hj rfl
          subst hij
          have hqe : q = (q.1, e9) := Option.some.inj (hi.symm.trans hj)
          rw [hqe]
          exact hP1 _ (List.mem_append_right _ h)
      · exact absurd hq0.lt (Nat.not_lt.mpr h9)
    · exact hq0.kept (hk q.1 hq0.lt hA9)
  intro q hq
  rcases List.mem_append.mp hq with h | h
  · exact keep q (List.mem_append_left _ h)
  · rcases List.mem_append.mp h with h | h
    · exact hP1 q (List.mem_append_left _ h)
    · exact keep q (List.mem_append_right _ h)
theorem wr_D2 {rd x z : va_W} (hv : wa ++ wb = x ++ (rd ++ z)) (hD : va_D A (wa ++ (wc ++ wb))) : va_D A (wc ++ rd) := by
  rw [va_D.nodup] at hD ⊢
  obtain ⟨h1, h2⟩ := hD
  have hp : ((wc ++ (wa ++ wb)).map Prod.fst).Nodup := by
    refine (List.Perm.nodup_iff ?_).mp h1
    refine List.Perm.map _ ?_
    rw [← List.append_assoc wa wc wb, ← List.append_assoc wc wa wb]
    exact List.Perm.append_right wb List.perm_append_comm
  have hm : ∀ a ∈ (wc ++ (wa ++ wb)).map Prod.fst, A a := fun a ha => h2 a (by
    simp only [List.map_append, List.mem_append] at ha ⊢
    rcases ha with h | h | h
    · exact Or.inr (Or.inl h)
    · exact Or.inl h
    · exact Or.inr (Or.inr h))
  rw [hv] at hp hm
  simp only [List.map_append] at hp hm ⊢
  obtain ⟨a1, a2, a3⟩ := List.nodup_append.mp hp
  obtain ⟨b1, b2, b3⟩ := List.nodup_append.mp a2
  obtain ⟨c1, c2, c3⟩ := List.nodup_append.mp b2
  refine ⟨List.nodup_append.mpr ⟨a1, c1, fun a ha b hb => a3 a ha b (List.mem_append_right _ (List.mem_append_left _ hb))⟩, fun a ha => hm a ?_⟩
  rcases List.mem_append.mp ha with h | h
  · exact List.mem_append_left _ h
  · exact List.mem_append_right _ (List.mem_append_right _ (List.mem_append_left _ h))
theorem wrV2 (wa wc wb rd x z u1 : va_W) (hv : wa ++ wb = x ++ (rd ++ z)) (CF : CallFix p m c cc nL s args Ts own) (hM : Wr l y wy rm G (wc ++ rd) (u1 ++ rd) (.ref b :: As) ov) (cw : CallW R s args own C index y bytes maxL ret wy rm 0 0 n) (hP : va_P G.1 vwCl (wa ++ (wc ++ wb)) H) (hD : va_D A (wa ++ (wc ++ wb))) (hS : va_S A H0 H locs) (hA : ∀ q, H0.size ≤ q → A q) (hY : Sy G s) (hw0 : (wc ++ rd)[0]? = some (b, .inr (ci, fs))) (hc : vwCl[ci]? = some (C, T, N)) (he : u1.map Prod.fst = wc.map Prod.fst)
    (hn : As.length = n) (hsz : ls.size = nL) (hst : st0 = As.reverse ++ .ref b :: rest) (hW : 2 * (F0 m pc ls st0).monitorRoom + (rest.map fun v => v.category).sum ≤ 8) (hdg : decode cc pc = .ok (.invokevirtual index, 3)) (hf : cells ≤ R.cells ∧ slots ≤ R.slots)
    (kk : ∀ (H1 : Heap) (locs1 : List Loc), va_P G.1 vwCl (wa ++ (u1 ++ wb)) H1 → va_D A (wa ++ (u1 ++ wb)) → va_S A H0 H1 locs1 → W p l e R s m args below meth c H1 locs1 cells slots Q (F0 m (pc + 3) ls (ov.toList ++ rest))) : W p l e R s m args below meth c H locs cells slots Q (F0 m pc ls st0) := by
  have hD2 := wr_D2 hv hD
  have hP2 : va_P G.1 vwCl (wc ++ rd) H := by
    have h := hP
    rw [va_P.mem] at h ⊢
    intro q hq
    rcases List.mem_append.mp hq with h9 | h9
    · exact h q (List.mem_append_right _ (List.mem_append_left _ h9))
    · have : q ∈ wa ++ wb := by rw [hv]; exact List.mem_append_right _ (List.mem_append_left _ h9)
      rcases List.mem_append.mp this with h8 | h8
      · exact h q (List.mem_append_left _ h8)
      · exact h q (List.mem_append_right _ (List.mem_append_right _ h8))
  have hr := va_runV CF (hM H.size) cw ⟨WPc.blind, rv_of hY hP2 hw0 hc, WPc.at hP2 hY hD2⟩ (rest := rest) (cells := cells) (slots := slots) (locs := locs) (meth := meth) (g := F0 m pc ls st0) (below := below) (e := e) rfl hn hsz hst hW hdg hf
  intro T' hT X
  have hfr := va_A.free hD2 hS hA
  obtain ⟨v', st₀, t, T2, L, h0, X', hL, e1, e2, ⟨⟨hv', hp⟩, hz, hk⟩, st⟩ := hr T' hT X
  cases hv'
  rw [h0] at hz hk
  rw [← e1] at hz hk hp
  obtain ⟨t2, a1, b1⟩ := kk T2.heap (locs ++ L) (wr_join2 hv hP hD hk hp) (hD.re (by simp [he])) ⟨Nat.le_trans hS.1 hz, fun q h1 h2 => by rw [hk q (Nat.lt_of_lt_of_le h1 hS.1) (fun z => h2 (hfr q z))]; exact hS.2.1 q h1 h2, fun q hq => by
      rcases List.mem_append.mp hq with h | h
      · exact hS.2.2 q h
      · exact hfr _ (hL q h)⟩ T2 rfl X'
  exact ⟨t2, st t2 a1, b1⟩
end BASE3
