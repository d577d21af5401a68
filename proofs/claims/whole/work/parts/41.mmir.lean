/-! slots, distinct items, the chain: what the reference's methods compute -/
theorem le_mx (x : Int32) : x ≤ 2147483647 := by
  rw [Int32.le_iff_toInt_le]
  have := x.toInt_lt
  have h : (2147483647 : Int32).toInt = 2147483647 := rfl
  omega
theorem toInt_up {i B : Int32} (h : ¬ B ≤ i) : (i + 1).toInt = i.toInt + 1 := by
  rw [Int32.le_iff_toInt_le] at h
  have h1 := B.toInt_lt
  have h2 := i.le_toInt
  rw [Int32.toInt_add, show (1 : Int32).toInt = 1 from rfl]
  exact Int.bmod_eq_of_le (by omega) (by omega)
def slI (s i n : Int32) : Prop := s ≤ i ∧ 0 ≤ n.toInt ∧ n.toInt ≤ i.toInt
theorem slI0 {s : Int32} (h : 0 ≤ s.toInt) : slI s s 0 := ⟨Int32.le_refl s, by decide, by rw [show (0 : Int32).toInt = 0 from rfl]; exact h⟩
theorem slI_same {s i n B : Int32} (h : slI s i n) (hb : ¬ B ≤ i) : slI s (i + 1) n := by
  obtain ⟨h1, h2, h3⟩ := h
  have := toInt_up hb
  rw [Int32.le_iff_toInt_le] at h1
  exact ⟨by rw [Int32.le_iff_toInt_le]; omega, h2, by omega⟩
theorem slI_nn {s i n B : Int32} (h : slI s i n) (hb : ¬ B ≤ i) : (n + 1).toInt = n.toInt + 1 := by
  obtain ⟨h1, h2, h3⟩ := h
  rw [Int32.le_iff_toInt_le] at hb
  exact toInt_up (B := B) (by rw [Int32.le_iff_toInt_le]; omega)
theorem slI_up {s i n B : Int32} (h : slI s i n) (hb : ¬ B ≤ i) : slI s (i + 1) (n + 1) := by
  have h4 := slI_nn h hb
  obtain ⟨h1, h2, h3⟩ := h
  have := toInt_up hb
  rw [Int32.le_iff_toInt_le] at h1
  exact ⟨by rw [Int32.le_iff_toInt_le]; omega, by omega, by omega⟩
theorem slI_ne {s i n B : Int32} (h : slI s i n) (hb : ¬ B ≤ i) : ¬ n + 1 = 0 := by
  have h4 := slI_nn h hb
  intro e
  rw [e, show (0 : Int32).toInt = 0 from rfl] at h4
  have := h.2.1
  omega
def mSlL (k : Int32) (gr fi : Nat → Int32) (g sl B : Int32) : Nat → Int32 → Int32 → Int32 → Int32
  | 0, f, _, _ => f
  | u + 1, f, n, i => if B ≤ i then f else
    if g = (-1) then
      (if k < n + 1 then
        (if fi i.toNatClampNeg - fi i.toNatClampNeg / (n + 1) * (n + 1) = sl then (if k ≤ fi i.toNatClampNeg - fi i.toNatClampNeg / (n + 1) * (n + 1) then mSlL k gr fi g sl B u f (n + 1) (i + 1) else mSlL k gr fi g sl B u i (n + 1) (i + 1)) else mSlL k gr fi g sl B u f (n + 1) (i + 1))
      else (if n + 1 - 1 = sl then (if k ≤ n + 1 - 1 then mSlL k gr fi g sl B u f (n + 1) (i + 1) else mSlL k gr fi g sl B u i (n + 1) (i + 1)) else mSlL k gr fi g sl B u f (n + 1) (i + 1)))
    else if gr i.toNatClampNeg = g then
      (if k < n + 1 then
        (if fi i.toNatClampNeg - fi i.toNatClampNeg / (n + 1) * (n + 1) = sl then (if k ≤ fi i.toNatClampNeg - fi i.toNatClampNeg / (n + 1) * (n + 1) then mSlL k gr fi g sl B u f (n + 1) (i + 1) else mSlL k gr fi g sl B u i (n + 1) (i + 1)) else mSlL k gr fi g sl B u f (n + 1) (i + 1))
      else (if n + 1 - 1 = sl then (if k ≤ n + 1 - 1 then mSlL k gr fi g sl B u f (n + 1) (i + 1) else mSlL k gr fi g sl B u i (n + 1) (i + 1)) else mSlL k gr fi g sl B u f (n + 1) (i + 1)))
    else mSlL k gr fi g sl B u f n (i + 1)
def mSl (many : Nat → Int32) (k : Int32) (gr fi : Nat → Int32) (st g sl : Int32) : Int32 := mSlL k gr fi g sl (300 * st + many st.toNatClampNeg) (((300 * st + many st.toNatClampNeg).toInt - (300 * st).toInt).toNat + 1) (-1) 0 (300 * st)
/-- a stream's places lie in the rows -/
def okB (many : Nat → Int32) (st : Int32) : Prop := 0 ≤ (300 * st : Int32).toInt ∧ ∀ i : Int32, 300 * st ≤ i → ¬ 300 * st + many st.toNatClampNeg ≤ i → vp_in i 600
theorem ok3_of {g : Int32} (h : okA g 0 3) : okA g (-1) 3 := by
  refine ⟨fun h1 => h.1 ?_, h.2⟩
  rw [Int32.lt_iff_toInt_lt] at h1 ⊢
  have a : (-1 : Int32).toInt = -1 := rfl
  have b : (0 : Int32).toInt = 0 := rfl
  omega
theorem lt_nI {a b : Nat} (ha : a < 600) (hb : b ≤ a) (h : ¬ nI a ≤ nI b) : b < a := by
  rcases Nat.lt_or_ge b a with q | q
  · exact q
  · exact absurd (nI_le q (by omega)) h
def mDsI (many it : Nat → Int32) (st : Int32) (a : Nat) : Nat → Nat → (Nat → Int32) → (Nat → Int32)
  | 0, _, v => v
  | u + 1, b, v => if nI a ≤ nI b then v else if v (nI a).toNatClampNeg = 0 then v
    else if mIsOf many st (nI b) = 0 then mDsI many it st a u (b + 1) (upd v (nI a).toNatClampNeg (vp_nar .boolean 1))
    else if it (nI b).toNatClampNeg = it (nI a).toNatClampNeg then mDsI many it st a u (b + 1) (upd v (nI a).toNatClampNeg (vp_nar .boolean 0))
    else mDsI many it st a u (b + 1) (upd v (nI a).toNatClampNeg (vp_nar .boolean 1))
def mDsL (many it : Nat → Int32) (st : Int32) : Nat → Nat → Int32 → (Nat → Int32) → (Int32 × (Nat → Int32))
  | 0, _, x, w => (x, w)
  | u + 1, a, x, w => if (600 : Int32) ≤ nI a then (x, w)
    else if mDsI many it st a (a - 0 + 1) 0 (upd w (nI a).toNatClampNeg (vp_nar .boolean (mIsOf many st (nI a)))) (nI a).toNatClampNeg = 0 then mDsL many it st u (a + 1) (x + 0) (mDsI many it st a (a - 0 + 1) 0 (upd w (nI a).toNatClampNeg (vp_nar .boolean (mIsOf many st (nI a)))))
    else mDsL many it st u (a + 1) (x + 1) (mDsI many it st a (a - 0 + 1) 0 (upd w (nI a).toNatClampNeg (vp_nar .boolean (mIsOf many st (nI a)))))
def mDs (many it : Nat → Int32) (st : Int32) (w : Nat → Int32) : Int32 × (Nat → Int32) := mDsL many it st (600 - 0 + 1) 0 0 w
def mDn (many it : Nat → Int32) (k st : Int32) (w : Nat → Int32) : Int32 := if k ≤ (mDs many it st w).1 then k else (mDs many it st w).1
def mHsN (w it : Nat → Int32) (a : Nat) : Nat → Nat → Int32 → Int32
  | 0, _, x => x
  | u + 1, b, x => if (600 : Int32) ≤ nI b then x else if w (nI b).toNatClampNeg = 0 then mHsN w it a u (b + 1) (x + 0)
    else if 0 ≤ lg_cmp (hash_ (it (nI b).toNatClampNeg)) (hash_ (it (nI a).toNatClampNeg)) then mHsN w it a u (b + 1) (x + 0) else mHsN w it a u (b + 1) (x + 1)
def mHsL (w it : Nat → Int32) (pl : Int32) : Nat → Nat → Int32 → Int32
  | 0, _, f => f
  | u + 1, a, f => if (600 : Int32) ≤ nI a then f else if w (nI a).toNatClampNeg = 0 then mHsL w it pl u (a + 1) f
    else if mHsN w it a (600 - 0 + 1) 0 0 = pl then mHsL w it pl u (a + 1) (nI a) else mHsL w it pl u (a + 1) f
def mHs (w it : Nat → Int32) (pl : Int32) : Int32 := mHsL w it pl (600 - 0 + 1) 0 (-1)
def mDoL (many it : Nat → Int32) (st y : Int32) : Nat → Nat → Int32 → Int32
  | 0, _, x => x
  | u + 1, b, x => if (600 : Int32) ≤ nI b then x else if y = (-1) then x else if mIsOf many st (nI b) = 0 then mDoL many it st y u (b + 1) (x + 0)
    else if it (nI b).toNatClampNeg = it y.toNatClampNeg then mDoL many it st y u (b + 1) (x + 1) else mDoL many it st y u (b + 1) (x + 0)
/-! the chain -/
def mShL (c : Nat) : Nat → Nat → (Nat → Int32) → (Nat → Int32)
  | 0, _, h => h
  | u + 1, j, h => if nI c ≤ nI j then h else mShL c u (j + 1) (upd h (nI j).toNatClampNeg (h (nI j + 1).toNatClampNeg))
def mChW (w : Int32) (n : Nat) : Nat → Nat → (Nat → Int32) → (Nat × (Nat → Int32))
  | 0, c, h => (c, h)
  | u + 1, c, h => if nI n - w < h (0 : Int32).toNatClampNeg then (c, h) else mChW w n u (c - 1) (mShL (c - 1) (c - 1 - 0 + 1) 0 h)
/-- the loop that drops the chain's first offers comes to its end -/
def mWt (w : Int32) (n : Nat) : Nat → (Nat → Int32) → Prop
  | 0, h => nI n - w < h (0 : Int32).toNatClampNeg
  | c + 1, h => nI n - w < h (0 : Int32).toNatClampNeg ∨ mWt w n c (mShL c (c - 0 + 1) 0 h)
theorem mWt_go {w : Int32} {n c : Nat} {h : Nat → Int32} (ht : mWt w n c h) (hn : ¬ nI n - w < h (0 : Int32).toNatClampNeg) : 1 ≤ c ∧ mWt w n (c - 1) (mShL (c - 1) (c - 1 - 0 + 1) 0 h) := by
  cases c with
  | zero => exact absurd ht hn
  | succ c => exact ⟨by omega, ht.resolve_left hn⟩
theorem mChW_le {w : Int32} {n : Nat} : ∀ {u c : Nat} {h : Nat → Int32}, (mChW w n u c h).1 ≤ c := by
  intro u
  induction u with
  | zero => intro c h; exact Nat.le_refl c
  | succ u ih =>
    intro c h
    unfold mChW
    split
    · exact Nat.le_refl c
    · exact Nat.le_trans ih (Nat.sub_le c 1)
def mRcL (w : Int32) (fi se : Nat → Int32) (st M : Int32) : Nat → Nat → Nat → Int32 → (Nat → Int32) → (Nat × Int32 × (Nat → Int32))
  | 0, _, c, x, h => (c, x, h)
  | u + 1, n, c, x, h => if M < nI n then (c, x, h)
    else if w ≤ nI n then
      (if fi (300 * st + nI n - 1).toNatClampNeg - fi (300 * st + nI n - 1).toNatClampNeg / w * w = 0 then mRcL w fi se st M u (n + 1) (mChW w n (1 + 1) 1 (upd h (0 : Int32).toNatClampNeg (nI n))).1 (nI n + 1 + (se (300 * st + nI n - 1).toNatClampNeg - se (300 * st + nI n - 1).toNatClampNeg / w * w)) (mChW w n (1 + 1) 1 (upd h (0 : Int32).toNatClampNeg (nI n))).2
      else if nI n = x then mRcL w fi se st M u (n + 1) (mChW w n (c + 1 + 1) (c + 1) (upd h (nI c).toNatClampNeg (nI n))).1 (nI n + 1 + (se (300 * st + nI n - 1).toNatClampNeg - se (300 * st + nI n - 1).toNatClampNeg / w * w)) (mChW w n (c + 1 + 1) (c + 1) (upd h (nI c).toNatClampNeg (nI n))).2
      else mRcL w fi se st M u (n + 1) (mChW w n (c + 1) c h).1 x (mChW w n (c + 1) c h).2)
    else
      (if fi (300 * st + nI n - 1).toNatClampNeg - fi (300 * st + nI n - 1).toNatClampNeg / nI n * nI n = 0 then mRcL w fi se st M u (n + 1) (mChW w n (1 + 1) 1 (upd h (0 : Int32).toNatClampNeg (nI n))).1 (nI n + 1 + (se (300 * st + nI n - 1).toNatClampNeg - se (300 * st + nI n - 1).toNatClampNeg / w * w)) (mChW w n (1 + 1) 1 (upd h (0 : Int32).toNatClampNeg (nI n))).2
      else if nI n = x then mRcL w fi se st M u (n + 1) (mChW w n (c + 1 + 1) (c + 1) (upd h (nI c).toNatClampNeg (nI n))).1 (nI n + 1 + (se (300 * st + nI n - 1).toNatClampNeg - se (300 * st + nI n - 1).toNatClampNeg / w * w)) (mChW w n (c + 1 + 1) (c + 1) (upd h (nI c).toNatClampNeg (nI n))).2
      else mRcL w fi se st M u (n + 1) (mChW w n (c + 1) c h).1 x (mChW w n (c + 1) c h).2)
def mRcT (w : Int32) (fi se : Nat → Int32) (st M : Int32) : Nat → Nat → Nat → Int32 → (Nat → Int32) → Prop
  | 0, _, _, _, _ => False
  | u + 1, n, c, x, h => if M < nI n then True
    else if w ≤ nI n then
      (if fi (300 * st + nI n - 1).toNatClampNeg - fi (300 * st + nI n - 1).toNatClampNeg / w * w = 0 then mWt w n 1 (upd h (0 : Int32).toNatClampNeg (nI n)) ∧ mRcT w fi se st M u (n + 1) (mChW w n (1 + 1) 1 (upd h (0 : Int32).toNatClampNeg (nI n))).1 (nI n + 1 + (se (300 * st + nI n - 1).toNatClampNeg - se (300 * st + nI n - 1).toNatClampNeg / w * w)) (mChW w n (1 + 1) 1 (upd h (0 : Int32).toNatClampNeg (nI n))).2
      else if nI n = x then mWt w n (c + 1) (upd h (nI c).toNatClampNeg (nI n)) ∧ mRcT w fi se st M u (n + 1) (mChW w n (c + 1 + 1) (c + 1) (upd h (nI c).toNatClampNeg (nI n))).1 (nI n + 1 + (se (300 * st + nI n - 1).toNatClampNeg - se (300 * st + nI n - 1).toNatClampNeg / w * w)) (mChW w n (c + 1 + 1) (c + 1) (upd h (nI c).toNatClampNeg (nI n))).2
      else mWt w n c h ∧ mRcT w fi se st M u (n + 1) (mChW w n (c + 1) c h).1 x (mChW w n (c + 1) c h).2)
    else
      (if fi (300 * st + nI n - 1).toNatClampNeg - fi (300 * st + nI n - 1).toNatClampNeg / nI n * nI n = 0 then mWt w n 1 (upd h (0 : Int32).toNatClampNeg (nI n)) ∧ mRcT w fi se st M u (n + 1) (mChW w n (1 + 1) 1 (upd h (0 : Int32).toNatClampNeg (nI n))).1 (nI n + 1 + (se (300 * st + nI n - 1).toNatClampNeg - se (300 * st + nI n - 1).toNatClampNeg / w * w)) (mChW w n (1 + 1) 1 (upd h (0 : Int32).toNatClampNeg (nI n))).2
      else if nI n = x then mWt w n (c + 1) (upd h (nI c).toNatClampNeg (nI n)) ∧ mRcT w fi se st M u (n + 1) (mChW w n (c + 1 + 1) (c + 1) (upd h (nI c).toNatClampNeg (nI n))).1 (nI n + 1 + (se (300 * st + nI n - 1).toNatClampNeg - se (300 * st + nI n - 1).toNatClampNeg / w * w)) (mChW w n (c + 1 + 1) (c + 1) (upd h (nI c).toNatClampNeg (nI n))).2
      else mWt w n c h ∧ mRcT w fi se st M u (n + 1) (mChW w n (c + 1) c h).1 x (mChW w n (c + 1) c h).2)
theorem rc_le {M : Int32} {m n : Nat} (hm : M = nI m) (hm3 : m ≤ 300) (hn : n ≤ 301) (h : ¬ M < nI n) : n ≤ m := by
  rcases Nat.lt_or_ge m n with q | q
  · exact absurd (by rw [hm]; exact nI_lt q (by omega)) h
  · exact q
theorem nI_m1 {c : Nat} (h : 1 ≤ c) : nI c - 1 = nI (c - 1) := by
  obtain ⟨d, rfl⟩ : ∃ d, c = d + 1 := ⟨c - 1, by omega⟩
  rw [nI_pred]
  rfl
theorem sh_lt {c j : Nat} (hc : c ≤ 300) (hj : j ≤ c) (h : ¬ nI c ≤ nI j) : j < c := by
  rcases Nat.lt_or_ge j c with q | q
  · exact q
  · exact absurd (nI_le q (by omega)) h
theorem vp_0_300 : vp_in (0 : Int32) 300 := by unfold vp_in; decide
