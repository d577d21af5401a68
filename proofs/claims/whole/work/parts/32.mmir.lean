/-! what the reference's methods compute -/
theorem vp_0_2 : vp_in (0 : Int32) 2 := by unfold vp_in; decide
theorem vp_1_2 : vp_in (1 : Int32) 2 := by unfold vp_in; decide
theorem vp_st1 {st : Int32} (h : okA st 0 1) : vp_in st 2 := by
  obtain ⟨j, hj, rfl⟩ := st_two h
  exact vp_nI hj (by decide)
theorem vp_st2 {st : Int32} (h : okA st 0 2) (h2 : ¬ st = 2) : vp_in st 2 := by
  obtain ⟨j, hj, rfl⟩ := st_three h
  refine vp_nI ?_ (by decide)
  have : j ≠ 2 := fun e => h2 (by rw [e]; rfl)
  omega
def mAll (many : Nat → Int32) (st : Int32) : Int32 := if st = 2 then many (0 : Int32).toNatClampNeg + many (1 : Int32).toNatClampNeg else many st.toNatClampNeg
def mSam (many : Nat → Int32) (k st : Int32) : Int32 := if k ≤ mAll many st then k else mAll many st
def mIsOf (many : Nat → Int32) (st x : Int32) : Int32 :=
  if st = 2 then (if many (x / 300).toNatClampNeg ≤ x - x / 300 * 300 then 0 else 1)
  else if st = x / 300 then (if many (x / 300).toNatClampNeg ≤ x - x / 300 * 300 then 0 else 1) else 0
def mOwn (we fi : Nat → Int32) (x z : Int32) : Int64 := (we x.toNatClampNeg).toInt64 * ((fi z.toNatClampNeg).toInt64 + 1)
def mAhead (we fi : Nat → Int32) (x z : Int32) : Int32 :=
  if 0 < lg_cmp (mOwn we fi x z) (mOwn we fi z x) then 1 else if lg_cmp (mOwn we fi x z) (mOwn we fi z x) = 0 then (if z ≤ x then 0 else 1) else 0
theorem of_in {a : Nat} (h : a < 600) : vp_in (nI a / 300) 2 := by
  have e : nI a / 300 = nI (a / 300) := nI_div (a := a) (b := 300) (by omega) (by decide)
  rw [e]
  exact vp_nI (by omega) (by decide)
theorem lt600 {a : Nat} (ha : a ≤ 600) (h : ¬ (600 : Int32) ≤ nI a) : a < 600 := by
  rcases Nat.lt_or_ge a 600 with q | q
  · exact q
  · exact absurd ((nI_leI (a := 600) (b := a) (by decide) (by omega)).mpr q) h
/-- a count over all places, by fuel -/
def mEwL (many we gr : Nat → Int32) (st g : Int32) : Nat → Nat → Int32 → Int32
  | 0, _, x => x
  | n + 1, a, x => if (600 : Int32) ≤ nI a then x else if mIsOf many st (nI a) = 0 then mEwL many we gr st g n (a + 1) (x + 0) else if gr (nI a).toNatClampNeg = g then mEwL many we gr st g n (a + 1) (x + we (nI a).toNatClampNeg) else mEwL many we gr st g n (a + 1) (x + 0)
def mGoL (many gr : Nat → Int32) (st g : Int32) : Nat → Nat → Int32 → Int32
  | 0, _, x => x
  | n + 1, a, x => if (600 : Int32) ≤ nI a then x else if mIsOf many st (nI a) = 0 then mGoL many gr st g n (a + 1) (x + 0) else if gr (nI a).toNatClampNeg = g then mGoL many gr st g n (a + 1) (x + 1) else mGoL many gr st g n (a + 1) (x + 0)
