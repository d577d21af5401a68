/-! constructors: a blank object comes to be a block, with the cells that it makes -/
section BASE4
variable {p : Program} {l : Launch} {e : Env} {R : Room} {s : State} {m : MethodId} {args : Array Value} {below : List Frame} {meth : Method} {c : Code} {H : Heap} {locs : List Loc} {cells slots : Nat} {Q : State → Prop}
variable {y : MethodName} {bytes cc : ByteArray} {maxL nL n index pc ci N mc ms : Nat} {ret : Option FieldType} {wy : List Cond} {rm : Room} {Ts : List Cond} {own C host : String} {b : Addr} {As rest st0 av : List Value} {ls : Array Slot} {G : GT} {wa wc wb : va_W} {A : Nat → Prop} {H0 : Heap} {w1 : (Nat → Nat) → va_W} {w0 : Nat → va_W}
abbrev Ct (l : Launch) (y : MethodName) (wy : List Cond) (rm : Room) (G : GT) (w0 : Nat → va_W) (w1 : (Nat → Nat) → va_W) (mc ms : Nat) : Prop := ∀ h0 sz : Nat, Met l y wy rm (WPc G (w0 h0) sz [.ref h0]) (va_Qv (fun ad : Nat → Nat => ad 0 = h0) (fun ad t => va_P G.1 vwCl (w1 ad) t.heap ∧ va_D (va_A (w0 h0) sz) (w1 ad)) (va_A (w0 h0) sz)) mc ms (va_A (w0 h0) sz)
theorem ct_joinD {u1 : va_W} (hP : va_P G.1 vwCl (wa ++ (wc ++ wb)) H) (hD : va_D A (wa ++ (wc ++ wb))) (hF : ∀ q, va_A wc H.size q → A q) (hD1 : va_D (va_A wc H.size) u1) : va_D A (wa ++ (u1 ++ wb)) := by
  rw [va_P.mem] at hP
  have hlt : ∀ q ∈ wa ++ (wc ++ wb), q.1 < H.size := fun q hq => (hP q hq).lt
  rw [va_D.nodup] at hD hD1 ⊢
  obtain ⟨h1, h2⟩ := hD
  obtain ⟨g1, g2⟩ := hD1
  simp only [List.map_append] at h1 h2 ⊢
  obtain ⟨a1, a2, a3⟩ := List.nodup_append.mp h1
  obtain ⟨b1, b2, b3⟩ := List.nodup_append.mp a2
  have key : ∀ (x : Nat) (z : Nat), z ∈ u1.map Prod.fst → (∀ w ∈ wc.map Prod.fst, x ≠ w) → x < H.size → x ≠ z := by
    intro x z hz hx hlx he
    rcases g2 z hz with ⟨k, e9, hk⟩ | hge
    · exact hx z (List.mem_map.mpr ⟨(z, e9), List.mem_of_getElem? hk, rfl⟩) he
    · omega
  refine ⟨List.nodup_append.mpr ⟨a1, List.nodup_append.mpr ⟨g1, b2, fun a ha b hb => ?_⟩, fun a ha b hb => ?_⟩, fun a ha => ?_⟩
  · obtain ⟨q, hq, rfl⟩ := List.mem_map.mp hb
    exact (key q.1 a ha (fun w hw => fun h => b3 w hw q.1 hb h.symm) (hlt q (List.mem_append_right _ (List.mem_append_right _ hq)))).symm
  · obtain ⟨q, hq, rfl⟩ := List.mem_map.mp ha
    rcases List.mem_append.mp hb with h | h
    · exact key q.1 b h (fun w hw => a3 q.1 ha w (List.mem_append_left _ hw)) (hlt q (List.mem_append_left _ hq))
    · exact a3 q.1 ha b (List.mem_append_right _ h)
  · rcases List.mem_append.mp ha with h | h
    · exact h2 a (List.mem_append_left _ h)
    · rcases List.mem_append.mp h with h | h
      · exact hF a (g2 a h)
      · exact h2 a (List.mem_append_right _ (List.mem_append_right _ h))
theorem ct_go {h0 : Nat} {a : Array Value} (hr : va_Run p l e R s m args below meth c H locs cells slots mc ms (F0 m pc ls st0) rest (va_Qv (fun ad : Nat → Nat => ad 0 = h0) (fun ad t => va_P G.1 vwCl (w1 ad) t.heap ∧ va_D (va_A wc H.size) (w1 ad)) (va_A wc H.size) a) (va_A wc H.size))
    (hP : va_P G.1 vwCl (wa ++ (wc ++ wb)) H) (hD : va_D A (wa ++ (wc ++ wb))) (hS : va_S A H0 H locs) (hA : ∀ q, H0.size ≤ q → A q)
    (kk : ∀ (ad : Nat → Nat) (H1 : Heap) (locs1 : List Loc), ad 0 = h0 → va_P G.1 vwCl (wa ++ (w1 ad ++ wb)) H1 → va_D A (wa ++ (w1 ad ++ wb)) → va_S A H0 H1 locs1 → W p l e R s m args below meth c H1 locs1 (cells + mc) (slots + ms) Q (F0 m (pc + 3) ls rest)) : W p l e R s m args below meth c H locs cells slots Q (F0 m pc ls st0) := by
  have hf := va_A.free hD.mid hS hA
  refine va_callv hr hS (fun q _ h => hf q h) hf (fun ad t H1 locs1 ht hvm had hB hz1 hk1 hS1 => ?_)
  obtain ⟨hp1, hd1⟩ := hB
  rw [ht] at hp1
  exact kk ad H1 locs1 had (wr_join hP hD hk1 hp1) (ct_joinD hP hD hf hd1) hS1
theorem ctI (wa wb : va_W) (h0 : Nat) (CF : CallFix p m c cc nL s args Ts own) (hM : Ct l y wy rm G w0 w1 mc ms) (cw : CallB R s args own index y bytes maxL none wy rm mc ms 0 ∧ y.name = "<init>" ∧ (Cond.instanceMethod y).before args s = true) (hP : va_P G.1 vwCl (wa ++ (w0 h0 ++ wb)) H) (hD : va_D A (wa ++ (w0 h0 ++ wb))) (hS : va_S A H0 H locs) (hA : ∀ q, H0.size ≤ q → A q) (hY : Sy G s)
    (hsz : ls.size = nL) (hst : st0 = .ref h0 :: rest) (hW : 2 * (F0 m pc ls st0).monitorRoom + (rest.map fun v => v.category).sum ≤ 8) (hdg : decode cc pc = .ok (.invokespecial index, 3)) (hf : cells + mc ≤ R.cells ∧ slots + ms ≤ R.slots)
    (kk : ∀ (ad : Nat → Nat) (H1 : Heap) (locs1 : List Loc), ad 0 = h0 → va_P G.1 vwCl (wa ++ (w1 ad ++ wb)) H1 → va_D A (wa ++ (w1 ad ++ wb)) → va_S A H0 H1 locs1 → W p l e R s m args below meth c H1 locs1 (cells + mc) (slots + ms) Q (F0 m (pc + 3) ls rest)) : W p l e R s m args below meth c H locs cells slots Q (F0 m pc ls st0) :=
  ct_go (va_runI (As := []) CF (hM h0 H.size) cw ⟨WPc.blind, WPc.at hP.cut.2.1 hY hD.mid⟩ rfl rfl hsz hst hW hdg hf) hP hD hS hA kk
theorem ctIN (wa wb : va_W) (h0 : Nat) (CF : CallFix p m c cc nL s args Ts own) (hM : Ct l y wy rm G w0 w1 mc ms) (cw : va_CN R s args own index y host bytes maxL none wy rm mc ms 0 ∧ y.name = "<init>" ∧ (Cond.instanceMethod y).before args s = true) (hP : va_P G.1 vwCl (wa ++ (w0 h0 ++ wb)) H) (hD : va_D A (wa ++ (w0 h0 ++ wb))) (hS : va_S A H0 H locs) (hA : ∀ q, H0.size ≤ q → A q) (hY : Sy G s)
    (hsz : ls.size = nL) (hst : st0 = .ref h0 :: rest) (hW : 2 * (F0 m pc ls st0).monitorRoom + (rest.map fun v => v.category).sum ≤ 8) (hdg : decode cc pc = .ok (.invokespecial index, 3)) (hf : cells + mc ≤ R.cells ∧ slots + ms ≤ R.slots)
    (kk : ∀ (ad : Nat → Nat) (H1 : Heap) (locs1 : List Loc), ad 0 = h0 → va_P G.1 vwCl (wa ++ (w1 ad ++ wb)) H1 → va_D A (wa ++ (w1 ad ++ wb)) → va_S A H0 H1 locs1 → W p l e R s m args below meth c H1 locs1 (cells + mc) (slots + ms) Q (F0 m (pc + 3) ls rest)) : W p l e R s m args below meth c H locs cells slots Q (F0 m pc ls st0) :=
  ct_go (va_runIN (As := []) CF (hM h0 H.size) cw ⟨WPc.blind, WPc.at hP.cut.2.1 hY hD.mid⟩ rfl rfl hsz hst hW hdg hf) hP hD hS hA kk
theorem ct_vret {h0 : Nat} {ad : Nat → Nat} {ww : va_W} (hexec : p.tables.exec = Jvm.exec) (hb : c.code = cc) (hr : meth.sig.returnType = none) (hlk : meth.locks = false) (hS : va_S A s.heap H locs) (hP : va_P G.1 vwCl ww H) (hD : va_D A ww) (hw : ww = w1 ad) (had : ad 0 = h0) (hdg : decode cc pc = .ok (.return_, 1)) :
    W p l e R s m args below meth c H locs cells slots (MQ below (va_Qv (fun ad : Nat → Nat => ad 0 = h0) (fun ad t => va_P G.1 vwCl (w1 ad) t.heap ∧ va_D A (w1 ad)) A) args s cells slots A) (F0 m pc ls []) := by
  subst hw
  exact W.vret hexec hb hr (fun t ht _ => ⟨⟨ad, rfl, had, by rw [ht]; exact hP, hD⟩, hS.F ht⟩) hS.2.2 hdg hlk
def cat2 (n : Nat) (f g : Nat → Nat) : Nat → Nat := fun j => if j < n then f j else g (j - n)
end BASE4
