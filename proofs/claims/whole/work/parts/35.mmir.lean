/-! the order by priorities, as the reference finds it -/
def mRkN (many we fi : Nat → Int32) (st : Int32) (a : Nat) : Nat → Nat → Int32 → Int32
  | 0, _, x => x
  | n + 1, b, x => if (600 : Int32) ≤ nI b then x else if mIsOf many st (nI b) = 0 then mRkN many we fi st a n (b + 1) (x + 0) else if nI b = nI a then mRkN many we fi st a n (b + 1) (x + 0) else if mAhead we fi (nI b) (nI a) = 0 then mRkN many we fi st a n (b + 1) (x + 0) else mRkN many we fi st a n (b + 1) (x + 1)
def mRkL (many we fi : Nat → Int32) (st pl : Int32) : Nat → Nat → Int32 → Int32
  | 0, _, f => f
  | n + 1, a, f => if (600 : Int32) ≤ nI a then f else if f = (-1) then (if mIsOf many st (nI a) = 0 then mRkL many we fi st pl n (a + 1) f else if mRkN many we fi st a (600 - 0 + 1) 0 0 = pl then mRkL many we fi st pl n (a + 1) (nI a) else mRkL many we fi st pl n (a + 1) (-1)) else f
def mRk (many we fi : Nat → Int32) (st pl : Int32) : Int32 := mRkL many we fi st pl (600 - 0 + 1) 0 (-1)
/-- what a place that was found must be: an index, and a divisor that isn't 0 -/
def okRk (fi : Nat → Int32) (x : Int32) : Prop := vp_in x 600 ∧ ¬ (fi x.toNatClampNeg).toInt64 + 1 = 0
def mTh (we fi : Nat → Int32) (x : Int32) : Int64 := if x = (-1) then 0 else (we x.toNatClampNeg).toInt64 * 2147483648 / ((fi x.toNatClampNeg).toInt64 + 1)
def mThr (many we fi : Nat → Int32) (k st : Int32) : Int64 := mTh we fi (mRk many we fi st k)
def mEst (we : Nat → Int32) (t : Int64) (x : Int32) : Int64 := if lg_cmp (we x.toNatClampNeg).toInt64 t ≤ 0 then t else (we x.toNatClampNeg).toInt64
