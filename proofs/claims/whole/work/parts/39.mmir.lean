theorem lt16 {S : Int32} {a : Nat} (hS : S ≤ 16) (ha : a ≤ 16) (h : ¬ S ≤ nI a) : a < 16 := by
  rcases Nat.lt_or_ge a 16 with q | q
  · exact q
  · have e : a = 16 := by omega
    subst e
    exact absurd hS h
def mEsL (many we gr fi : Nat → Int32) (st g S : Int32) (t : Int64) : Nat → Nat → Int64 → Int64
  | 0, _, x => x
  | n + 1, a, x => if S ≤ nI a then x
    else if lg_cmp (we (mRk many we fi st (nI a)).toNatClampNeg).toInt64 t ≤ 0 then
      (if gr (mRk many we fi st (nI a)).toNatClampNeg = g then mEsL many we gr fi st g S t n (a + 1) (x + t) else mEsL many we gr fi st g S t n (a + 1) (x + 0))
    else (if gr (mRk many we fi st (nI a)).toNatClampNeg = g then mEsL many we gr fi st g S t n (a + 1) (x + (we (mRk many we fi st (nI a)).toNatClampNeg).toInt64) else mEsL many we gr fi st g S t n (a + 1) (x + 0))
def mSwL (many we gr fi : Nat → Int32) (st g S : Int32) : Nat → Nat → Int32 → Int32
  | 0, _, x => x
  | n + 1, a, x => if S ≤ nI a then x
    else if gr (mRk many we fi st (nI a)).toNatClampNeg = g then mSwL many we gr fi st g S n (a + 1) (x + we (mRk many we fi st (nI a)).toNatClampNeg) else mSwL many we gr fi st g S n (a + 1) (x + 0)
