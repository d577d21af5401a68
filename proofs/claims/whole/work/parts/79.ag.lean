/-! a call of both: what they answer, what they hold behind it -/
theorem rsC_all (gr : Nat → Int32) (base : Nat) : ∀ n, rsC (MG gr (-1)) base n = n := by
  intro n
  induction n with
  | zero => rfl
  | succ n ih =>
    show rsC (MG gr (-1)) base n + (if MG gr (-1) (base + n) = true then 1 else 0) = n + 1
    rw [if_pos (MG_iff.mpr (Or.inl rfl)), ih]
theorem okA_rng {v lo hi : Int32} {a b : Nat} (ha : lo.toInt = a) (hb : hi.toInt = b) (h : okA v lo hi) : ∃ q, a ≤ q ∧ q ≤ b ∧ v = nI q := by
  have h0 : ¬ v < 0 := by
    intro hh
    refine h.1 ?_
    rw [Int32.lt_iff_toInt_lt] at hh ⊢
    have z : (0 : Int32).toInt = 0 := rfl
    omega
  obtain ⟨q, q1, rfl⟩ := nI_of2 hb h0 h.2
  have h1 := h.1
  rw [Int32.lt_iff_toInt_lt, ha] at h1
  have h2 := h.2
  rw [Int32.le_iff_toInt_le, hb] at h2
  have hbl : (b : Int) < 2147483648 := by
    have := hi.toInt_lt
    omega
  rw [nI_toInt (by omega)] at h1
  exact ⟨q, by omega, q1, rfl⟩
section
variable {k w n0 n1 j n : Nat} {sg : RRT} {mk mw st : Int32} {many it we gr fi se : Nat → Int32}
theorem S1.rsize (h : S1 k w n0 n1 j n sg mk mw many it we gr fi se st) : resFilled (rrStr sg st).2.2.2.1 = if mk ≤ many st.toNatClampNeg then mk else many st.toNatClampNeg := by
  have hk := h.1.1.2.1
  have hn := h.2.1.2.2.1
  rw [h.res.filled hk hn, rsC_all, h.1.2.1.2.1, h.2.1.2.2.2.1]
  by_cases c : k ≤ n
  · rw [if_pos (nI_le c (by omega)), Nat.min_eq_left c]
  · rw [if_neg (fun hh => c ((nI_leI (by omega) (by omega)).mp hh)), Nat.min_eq_right (by omega)]
theorem S1.full (h : S1 k w n0 n1 j n sg mk mw many it we gr fi se st) : (300 ≤ (rrStr sg st).2.2.1 ↔ n = 300) ∧ (many st.toNatClampNeg = 300 ↔ n = 300) := by
  have hn := h.2.1.2.2.1
  rw [h.taken, h.2.1.2.2.2.1]
  constructor
  · rw [show (300 : Int32) = nI 300 from rfl, nI_leI (by omega) (by omega)]
    omega
  · rw [show (300 : Int32) = nI 300 from rfl, nI_eq (by omega) (by omega)]
theorem S1.zero (h : S1 k w n0 n1 j n sg mk mw many it we gr fi se st) : ((rrStr sg st).2.2.1 ≤ 0 ↔ n = 0) ∧ (many st.toNatClampNeg = 0 ↔ n = 0) := by
  have hn := h.2.1.2.2.1
  rw [h.taken, h.2.1.2.2.2.1]
  constructor
  · rw [show (0 : Int32) = nI 0 from rfl, nI_leI (by omega) (by omega)]
    omega
  · rw [show (0 : Int32) = nI 0 from rfl, nI_eq (by omega) (by omega)]
/-- the offer in a slot -/
theorem S1.slot (h : S1 k w n0 n1 j n sg mk mw many it we gr fi se st) {g sl : Int32} {r : ResT} (hr : RelRes fi it (MG gr g) (300 * j) k n r) (hs : okP sl (resFilled r)) : (¬ mSl many mk gr fi st g sl = (-1)) ∧ vp_in (mSl many mk gr fi st g sl) 600 ∧ at_ 16 r.2.2.1 sl = it (mSl many mk gr fi st g sl).toNatClampNeg ∧ at_ 16 r.2.2.2 sl = (mSl many mk gr fi st g sl - mSl many mk gr fi st g sl / 300 * 300) + 1 := by
  have hj := h.2.1.1
  obtain ⟨z, z1, z2, z3, z4⟩ := hr.at h.1.1.2.1 h.2.1.2.2.1 (by omega) hs
  rw [h.sl, z2]
  refine ⟨nI_m1ne (by omega), vp_nI z1 (by decide), by rw [nI_clamp (by omega)]; exact z3, ?_⟩
  rw [z4, show (300 : Int32) = nI 300 from rfl, nI_mod (by omega) (by omega), nI_1]
theorem S1.noslot (h : S1 k w n0 n1 j n sg mk mw many it we gr fi se st) {g sl : Int32} {r : ResT} (hr : RelRes fi it (MG gr g) (300 * j) k n r) (hs : ¬ okP sl (resFilled r)) : mSl many mk gr fi st g sl = (-1) := by
  rw [h.sl]
  exact oI_none (fun hh => hs ((hr.okp h.1.1.2.1 h.2.1.2.2.1).mpr hh))
theorem S1.wItem (h : S1 k w n0 n1 j n sg mk mw many it we gr fi se st) (hn : ¬ n = 0) (hc : Nat → Int32) : vp_in (((300 * st) + ((mRcL mw fi se st (many st.toNatClampNeg) (301 - 1 + 1) 1 0 0 hc).2.2 (0 : Int32).toNatClampNeg)) - 1) 600 ∧
    at_ 300 (rrCha sg st).2.2.2.2.1 (rrCha sg st).2.1 = it (((300 * st) + ((mRcL mw fi se st (many st.toNatClampNeg) (301 - 1 + 1) 1 0 0 hc).2.2 (0 : Int32).toNatClampNeg)) - 1).toNatClampNeg ∧
    at_ 300 (rrCha sg st).2.2.2.2.2 (rrCha sg st).2.1 = (mRcL mw fi se st (many st.toNatClampNeg) (301 - 1 + 1) 1 0 0 hc).2.2 (0 : Int32).toNatClampNeg := by
  have hj := h.2.1.1
  have hn3 := h.2.1.2.2.1
  obtain ⟨q, s, q1, q2, s1, e1, e2, e3, e4⟩ := h.first (by omega) hc
  have e5 : (rrCha sg st).2.1 = nI s := e2
  rw [e1, h.mul, nI_add, nI_m1 (by omega), nI_clamp (by omega), e5, at_nI s1 (by decide), at_nI s1 (by decide)]
  exact ⟨vp_nI (by omega) (by decide), e3, e4⟩
theorem S1.cLen (h : S1 k w n0 n1 j n sg mk mw many it we gr fi se st) (hc : Nat → Int32) : chaLen (rrCha sg st) = nI (mRcL mw fi se st (many st.toNatClampNeg) (301 - 1 + 1) 1 0 0 hc).1 := by
  rw [(h.rc hc).1.1]
  obtain ⟨c1, c2, s, e, c3, c4, c5, c6, c7⟩ := h.cha
  have a5 : (rrCha sg st).2.1 = nI s := c5
  have a6 : (rrCha sg st).2.2.1 = nI e := c6
  unfold chaLen
  rw [a5, a6, pk_sub (by omega)]
  congr 1
  omega
theorem S1.cNext (h : S1 k w n0 n1 j n sg mk mw many it we gr fi se st) (hc : Nat → Int32) : (rrCha sg st).2.2.2.1 = (mRcL mw fi se st (many st.toNatClampNeg) (301 - 1 + 1) 1 0 0 hc).2.1 := by
  rw [(h.rc hc).1.2.1]
  exact h.cha.2.1
end
abbrev AgI (l : Launch) (y1 : MethodName) (ws1 : List Cond) (rm1 : Room) (y2 : MethodName) (ws2 : List Cond) (rm2 : Room) (G : GT) (ad : Nat → Nat) (o : Nat) (ae : Nat → Nat) (u : Nat) (sg : RRT) (r : MoT) (ou : Nat) (fo : Nat → Int64) (av1 av2 : List Value) : Prop :=
  ∃ (kk : Int32) (fo' : Nat → Int64) (sg' : RRT) (b : Int32) (r' : MoT), Ca l y1 ws1 rm1 G ([(ou, .inl (G.2.2.2, 1, .inr (.inl fo)))] ++ (wRR G ad o sg)) ([(ou, .inl (G.2.2.2, 1, .inr (.inl fo')))] ++ (wRR G ad o sg')) av1 (some (.int kk)) ∧ Wr l y2 ws2 rm2 G (wMo G ae u r) (wMo G ae u r') av2 (some (.int b)) ∧ r'.1 = kk ∧ (kk = 0 → fo' (0 : Int32).toNatClampNeg = b.toInt64) ∧ Rel sg' r'
abbrev AgL (l : Launch) (y1 : MethodName) (ws1 : List Cond) (rm1 : Room) (y2 : MethodName) (ws2 : List Cond) (rm2 : Room) (G : GT) (ad : Nat → Nat) (o : Nat) (ae : Nat → Nat) (u : Nat) (sg : RRT) (r : MoT) (ou : Nat) (fo : Nat → Int64) (av1 av2 : List Value) : Prop :=
  ∃ (kk : Int32) (fo' : Nat → Int64) (sg' : RRT) (b : Int64) (r' : MoT), Ca l y1 ws1 rm1 G ([(ou, .inl (G.2.2.2, 1, .inr (.inl fo)))] ++ (wRR G ad o sg)) ([(ou, .inl (G.2.2.2, 1, .inr (.inl fo')))] ++ (wRR G ad o sg')) av1 (some (.int kk)) ∧ Wr l y2 ws2 rm2 G (wMo G ae u r) (wMo G ae u r') av2 (some (.long b)) ∧ r'.1 = kk ∧ (kk = 0 → fo' (0 : Int32).toNatClampNeg = b) ∧ Rel sg' r'
abbrev AgV (l : Launch) (y1 : MethodName) (ws1 : List Cond) (rm1 : Room) (y2 : MethodName) (ws2 : List Cond) (rm2 : Room) (G : GT) (ad : Nat → Nat) (o : Nat) (ae : Nat → Nat) (u : Nat) (sg : RRT) (r : MoT) (av1 av2 : List Value) : Prop :=
  ∃ (kk : Int32) (sg' : RRT) (r' : MoT), Ca l y1 ws1 rm1 G (wRR G ad o sg) (wRR G ad o sg') av1 (some (.int kk)) ∧ Wr l y2 ws2 rm2 G (wMo G ae u r) (wMo G ae u r') av2 none ∧ r'.1 = kk ∧ Rel sg' r'
