/-! the class against the reference -/
def RelA (k w n0 n1 : Nat) (sg : RRT) (mk mw : Int32) (many it we gr fi se : Nat → Int32) : Prop :=
  (2 ≤ k ∧ k ≤ 16 ∧ 1 ≤ w ∧ w ≤ 64) ∧ (sg.1 = nI k ∧ mk = nI k ∧ mw = nI w) ∧ MC many n0 n1 ∧ (∀ a, XS n0 n1 2 a = true → VO it we gr fi se a) ∧ RelStr it we gr fi se 0 n0 k w sg.2.1 ∧ RelStr it we gr fi se 300 n1 k w sg.2.2.1
def Rel (sg : RRT) (r : MoT) : Prop := ∃ k w n0 n1, RelA k w n0 n1 sg r.2.1 r.2.2.1 r.2.2.2.1 r.2.2.2.2.1 r.2.2.2.2.2.1 r.2.2.2.2.2.2.1 r.2.2.2.2.2.2.2.1 r.2.2.2.2.2.2.2.2.1
theorem XS2_0 {n0 n1 a : Nat} (h : a < n0) : XS n0 n1 2 a = true := XS_iff.mpr (Or.inl ⟨by decide, h⟩)
theorem XS2_1 {n0 n1 a : Nat} (h1 : 300 ≤ a) (h2 : a < 300 + n1) : XS n0 n1 2 a = true := XS_iff.mpr (Or.inr ⟨by decide, h1, h2⟩)
theorem rel_start {k w : Nat} (hk : 2 ≤ k) (hk2 : k ≤ 16) (hw : 1 ≤ w) (hw2 : w ≤ 64) (sg : RRT) {many it we gr fi se : Nat → Int32} (h0 : many 0 = 0) (h1 : many 1 = 0) : RelA k w 0 0 (rrStart (nI k) (nI w) sg) (nI k) (nI w) many it we gr fi se := by
  refine ⟨⟨hk, hk2, hw, hw2⟩, ⟨rfl, rfl, rfl⟩, ⟨h0.trans nI_0.symm, h1.trans nI_0.symm, by omega, by omega⟩, fun a ha => ?_, ?_, ?_⟩
  · have := XS_iff.mp ha
    omega
  · exact RelStr.empty rfl rfl
  · exact RelStr.empty rfl rfl
/-- one stream, as a call for it sees it -/
def S1 (k w n0 n1 j n : Nat) (sg : RRT) (mk mw : Int32) (many it we gr fi se : Nat → Int32) (st : Int32) : Prop :=
  RelA k w n0 n1 sg mk mw many it we gr fi se ∧ (j ≤ 1 ∧ st = nI j ∧ n ≤ 300 ∧ many st.toNatClampNeg = nI n ∧ n = if j = 0 then n0 else n1) ∧ (∀ a, 300 * j ≤ a → a < 300 * j + n → VO it we gr fi se a) ∧ RelStr it we gr fi se (300 * j) n k w (rrStr sg st)
theorem RelA.s1 {k w n0 n1 : Nat} {sg : RRT} {mk mw : Int32} {many it we gr fi se : Nat → Int32} {st : Int32} (h : RelA k w n0 n1 sg mk mw many it we gr fi se) (hs : okA st 0 1) : ∃ j n, S1 k w n0 n1 j n sg mk mw many it we gr fi se st := by
  have h9 := h
  obtain ⟨a1, a2, a3, a4, a5, a6⟩ := h
  obtain ⟨j, hj, rfl⟩ := st_two hs
  have : j = 0 ∨ j = 1 := by omega
  rcases this with rfl | rfl
  · refine ⟨0, n0, h9, ⟨by omega, rfl, a3.2.2.1, a3.1, rfl⟩, fun a q1 q2 => a4 a (XS2_0 (by omega)), ?_⟩
    exact a5
  · refine ⟨1, n1, h9, ⟨by omega, rfl, a3.2.2.2, a3.2.1, rfl⟩, fun a q1 q2 => a4 a (XS2_1 (by omega) (by omega)), ?_⟩
    exact a6
section
variable {k w n0 n1 j n : Nat} {sg : RRT} {mk mw st : Int32} {many it we gr fi se : Nat → Int32}
theorem S1.mul (h : S1 k w n0 n1 j n sg mk mw many it we gr fi se st) : 300 * st = nI (300 * j) := by
  rw [h.2.1.2.1, show (300 : Int32) = nI 300 from rfl, pk_mul]
theorem okB_eq {many : Nat → Int32} {st : Int32} : okB many st = (0 ≤ (300 * st : Int32).toInt ∧ ∀ i : Int32, 300 * st ≤ i → ¬ 300 * st + many st.toNatClampNeg ≤ i → vp_in i 600) := rfl
theorem S1.okB (h : S1 k w n0 n1 j n sg mk mw many it we gr fi se st) : okB many st := by
  obtain ⟨b1, b2, b3, b4, -⟩ := h.2.1
  rw [okB_eq]
  rw [h.mul, b4, nI_add, nI_toInt (by omega)]
  refine ⟨by omega, fun i h1 h2 => ?_⟩
  rw [vp_in_iff]
  rw [Int32.le_iff_toInt_le, nI_toInt (by omega)] at h1 h2
  omega
theorem S1.sl (h : S1 k w n0 n1 j n sg mk mw many it we gr fi se st) (g sl : Int32) : mSl many mk gr fi st g sl = oI (rsF fi (MG gr g) (300 * j) k sl n) := by
  obtain ⟨b1, b2, b3, b4, -⟩ := h.2.1
  unfold mSl
  rw [h.mul, b4, nI_add, h.1.2.1.2.1, nI_toInt (by omega), nI_toInt (by omega)]
  have := slL (gr := gr) (fi := fi) (base := 300 * j) (k := k) (N := n) (g := g) (sl := sl) h.1.1.2.1 (by omega) (fun a q1 q2 => (h.2.2.1 a q1 q2).2.1.2) ((((300 * j + n : Nat) : Int) - ((300 * j : Nat) : Int)).toNat + 1) 0 (Nat.zero_le _) (by omega)
  exact this
theorem S1.res (h : S1 k w n0 n1 j n sg mk mw many it we gr fi se st) : RelRes fi it (MG gr (-1)) (300 * j) k n (rrStr sg st).2.2.2.1 := h.2.2.2.2.2.2.1
theorem S1.grp (h : S1 k w n0 n1 j n sg mk mw many it we gr fi se st) {g : Int32} (hg : okA g 0 3) : RelGrp fi it we gr (300 * j) k n g (strGrp (rrStr sg st) g) := by
  obtain ⟨q, hq, rfl⟩ := nI_of2 (n := 3) rfl hg.1 hg.2
  exact h.2.2.2.2.2.2.2.1 q hq
theorem oI_ne {f : Option Nat} {z : Nat} (h : oI f = nI z) (hz : z < 2147483648) : ¬ oI f = (-1) := by
  rw [h]
  exact nI_m1ne hz
theorem oI_none {f : Option Nat} (h : ¬ ∃ z, f = some z) : oI f = (-1) := by
  cases f with
  | none => rfl
  | some z => exact absurd ⟨z, rfl⟩ h
theorem S1.taken (h : S1 k w n0 n1 j n sg mk mw many it we gr fi se st) : (rrStr sg st).2.2.1 = many st.toNatClampNeg := by
  rw [h.2.1.2.2.2.1]
  exact h.2.2.2.2.2.1
/-! the chain of a stream -/
theorem S1.rc (h : S1 k w n0 n1 j n sg mk mw many it we gr fi se st) (hc : Nat → Int32) :
    ((mRcL mw fi se st (many st.toNatClampNeg) (301 - 1 + 1) 1 0 0 hc).1 = (chS fi se (300 * j) w n).1.length ∧
    (mRcL mw fi se st (many st.toNatClampNeg) (301 - 1 + 1) 1 0 0 hc).2.1 = nI (chS fi se (300 * j) w n).2 ∧
    Rep (chS fi se (300 * j) w n).1 (mRcL mw fi se st (many st.toNatClampNeg) (301 - 1 + 1) 1 0 0 hc).2.2) ∧
    mRcT mw fi se st (many st.toNatClampNeg) (301 - 1 + 1) 1 0 0 hc := by
  obtain ⟨b1, b2, b3, b4, -⟩ := h.2.1
  have := rc_spec (fi := fi) (se := se) (j := j) (w := w) (N := n) b1 h.1.1.2.2.1 h.1.1.2.2.2 b3 (fun a ha => by
    have := h.2.2.1 (300 * j + a) (by omega) (by omega)
    exact ⟨this.2.1.2, this.2.2.2⟩) (301 - 1 + 1) 0 hc (Nat.zero_le _) (by omega) (fun i p hp => by simp [chS] at hp)
  rw [h.1.2.1.2.2, b4, b2]
  exact ⟨⟨this.1, this.2.1, this.2.2.1⟩, this.2.2.2⟩
theorem S1.hw (h : S1 k w n0 n1 j n sg mk mw many it we gr fi se st) : ¬ mw = 0 := by
  rw [h.1.2.1.2.2]
  exact nI_ne0 h.1.1.2.2.1 (by have := h.1.1.2.2.2; omega)
theorem S1.hBn (h : S1 k w n0 n1 j n sg mk mw many it we gr fi se st) : ∀ q : Nat, 1 ≤ q → q ≤ n → vp_in (((300 * st) + (nI q)) - 1) 600 := by
  obtain ⟨b1, b2, b3, b4, -⟩ := h.2.1
  intro q h1 h2
  rw [h.mul, nI_add, nI_m1 (by omega)]
  exact vp_nI (by omega) (by decide)
theorem S1.cha (h : S1 k w n0 n1 j n sg mk mw many it we gr fi se st) : RelCha fi se it (300 * j) w n (rrStr sg st).2.2.2.2.2.2.2.2.2.2 := h.2.2.2.2.2.2.2.2.2.2
/-- the chain's first offer -/
theorem S1.first (h : S1 k w n0 n1 j n sg mk mw many it we gr fi se st) (hn : 1 ≤ n) (hc : Nat → Int32) : ∃ q s : Nat, 1 ≤ q ∧ q ≤ n ∧ s < 300 ∧ (mRcL mw fi se st (many st.toNatClampNeg) (301 - 1 + 1) 1 0 0 hc).2.2 (0 : Int32).toNatClampNeg = nI q ∧ (rrStr sg st).2.2.2.2.2.2.2.2.2.2.2.1 = nI s ∧ (rrStr sg st).2.2.2.2.2.2.2.2.2.2.2.2.2.2.1 s = it (300 * j + q - 1) ∧ (rrStr sg st).2.2.2.2.2.2.2.2.2.2.2.2.2.2.2 s = nI q := by
  obtain ⟨b1, b2, b3, b4, -⟩ := h.2.1
  obtain ⟨i1, i2, i3, i4⟩ := ch_inv (fi := fi) (se := se) (base := 300 * j) h.1.1.2.2.1 n
  obtain ⟨p, p1, -, -⟩ := i4 hn
  have hr := (h.rc hc).1.2.2
  obtain ⟨c1, c2, s, e, c3, c4, c5, c6, c7⟩ := h.cha
  obtain ⟨q, hq⟩ : ∃ q, (chS fi se (300 * j) w n).1[0]? = some q := by
    cases hQ : (chS fi se (300 * j) w n).1 with
    | nil => rw [hQ] at p1; cases p1
    | cons q Q => exact ⟨q, rfl⟩
  have hl := (List.getElem?_eq_some_iff.mp hq).1
  have hq2 := i2 q (List.mem_of_getElem? hq)
  have := c7 0 q hq
  rw [Nat.add_zero] at this
  exact ⟨q, s, hq2.1, hq2.2, by omega, hr 0 q hq, c5, this.1, this.2⟩
end
