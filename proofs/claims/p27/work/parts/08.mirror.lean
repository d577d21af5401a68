/-! what the class's methods compute, in their own words -/
theorem vp_of {n : Nat} {i : Int32} (hn : n < 2147483648) (h1 : ¬ i < 0) (h2 : ¬ Int32.ofNat n ≤ i) : vp_in i n := by
  rintro (h | h)
  · exact h1 h
  · refine h2 ?_
    rw [Int32.le_iff_toInt_le, show (Int32.ofNat n).toInt = (n : Int) from nI_toInt hn]
    rw [Int32.lt_iff_toInt_lt, Int32.toInt_zero] at h1
    have : (i.toNatClampNeg : Int) = i.toInt := by
      unfold Int32.toNatClampNeg
      omega
    omega
theorem ms_up {a c : Int32} {n : Nat} (h : ¬ c ≤ a) (hm : (c.toInt - a.toInt).toNat < n + 1) : (c.toInt - (a + 1).toInt).toNat < n := by
  rw [Int32.le_iff_toInt_le] at h
  have h1 := c.toInt_lt
  have h2 := a.le_toInt
  have h3 : (a + 1).toInt = a.toInt + 1 := by
    rw [Int32.toInt_add, show (1 : Int32).toInt = 1 from rfl]
    exact Int.bmod_eq_of_le (by omega) (by omega)
  omega
theorem ms_dn {p i : Int32} {n : Nat} (h : ¬ i ≤ p) (hm : (i.toInt - p.toInt).toNat < n + 1) : ((i + (-1)).toInt - p.toInt).toNat < n := by
  rw [Int32.le_iff_toInt_le] at h
  have h1 := i.toInt_lt
  have h2 := p.le_toInt
  have h3 : (i + (-1)).toInt = i.toInt - 1 := by
    rw [Int32.toInt_add, show (-1 : Int32).toInt = -1 from rfl]
    exact Int.bmod_eq_of_le (by omega) (by omega)
  omega
/-- a word that no evaluation opens -/
theorem sld_ex {α : Type} (a : α) : ∃ x, x = a := ⟨a, rfl⟩
noncomputable def sld {α : Type} (a : α) : α := Classical.choose (sld_ex a)
theorem sld_eq {α : Type} (a : α) : sld a = a := Classical.choose_spec (sld_ex a)
def at_ (n : Nat) (f : Nat → Int32) (i : Int32) : Int32 := if i < 0 then 0 else if Int32.ofNat n ≤ i then 0 else f i.toNatClampNeg
def put_ (n : Nat) (f : Nat → Int32) (i v : Int32) : Nat → Int32 := if i < 0 then f else if Int32.ofNat n ≤ i then f else upd f i.toNatClampNeg v
def rem_ (d q : Int32) : Int32 := if q ≤ 0 then 0 else d - d / q * q
def quo_ (v d : Int64) : Int64 := if lg_cmp d 0 ≤ 0 then 0 else v / d
def insL (n : Nat) (p : Int32) : Nat → Int32 → (Nat → Int32) → (Nat → Int32)
  | 0, _, f => f
  | k + 1, i, f => if i ≤ p then f else insL n p k (i + (-1)) (put_ n f i (at_ n f (i - 1)))
def ins_ (n : Nat) (f : Nat → Int32) (p e v : Int32) : Nat → Int32 := put_ n (insL n p (((e - 1).toInt - p.toInt).toNat + 1) (e - 1) f) p v
abbrev ResT : Type := Int32 × Int32 × (Nat → Int32) × (Nat → Int32)
abbrev GrpT : Type := Int32 × ResT
abbrev PriT : Type := Int32 × Int32 × (Nat → Int32) × (Nat → Int32) × (Nat → Int32) × (Nat → Int32)
abbrev DisT : Type := Int32 × Int32 × (Nat → Int32) × (Nat → Int32)
abbrev ChaT : Type := Int32 × Int32 × Int32 × Int32 × (Nat → Int32) × (Nat → Int32)
abbrev StrT : Type := Int32 × Int32 × Int32 × ResT × GrpT × GrpT × GrpT × GrpT × PriT × DisT × ChaT
abbrev RRT : Type := Int32 × StrT × StrT × PriT × DisT
def wRes (G : GT) (ad : Nat → Nat) (o : Nat) (r : ResT) : va_W := [(ad o, .inr (4, [.ref (ad (o+1)), .ref (ad (o+2)), .int r.1, .int r.2.1])), (ad (o+1), .inl (G.2.1, 16, .inl r.2.2.1)), (ad (o+2), .inl (G.2.1, 16, .inl r.2.2.2))]
def wGrp (G : GT) (ad : Nat → Nat) (o : Nat) (r : GrpT) : va_W := (ad o, .inr (2, [.ref (ad (o+1)), .int r.1])) :: wRes G ad (o+1) r.2
def wPri (G : GT) (ad : Nat → Nat) (o : Nat) (r : PriT) : va_W := [(ad o, .inr (3, [.ref (ad (o+1)), .ref (ad (o+2)), .ref (ad (o+3)), .ref (ad (o+4)), .int r.1, .int r.2.1])), (ad (o+1), .inl (G.2.1, 17, .inl r.2.2.1)), (ad (o+2), .inl (G.2.1, 17, .inl r.2.2.2.1)), (ad (o+3), .inl (G.2.1, 17, .inl r.2.2.2.2.1)), (ad (o+4), .inl (G.2.1, 17, .inl r.2.2.2.2.2))]
def wDis (G : GT) (ad : Nat → Nat) (o : Nat) (r : DisT) : va_W := [(ad o, .inr (1, [.ref (ad (o+1)), .ref (ad (o+2)), .int r.1, .int r.2.1])), (ad (o+1), .inl (G.2.1, 16, .inl r.2.2.1)), (ad (o+2), .inl (G.2.1, 16, .inl r.2.2.2))]
def wCha (G : GT) (ad : Nat → Nat) (o : Nat) (r : ChaT) : va_W := [(ad o, .inr (0, [.ref (ad (o+1)), .ref (ad (o+2)), .int r.1, .int r.2.1, .int r.2.2.1, .int r.2.2.2.1])), (ad (o+1), .inl (G.2.1, 300, .inl r.2.2.2.2.1)), (ad (o+2), .inl (G.2.1, 300, .inl r.2.2.2.2.2))]
def wStr (G : GT) (ad : Nat → Nat) (o : Nat) (r : StrT) : va_W := (ad o, .inr (5, [.ref (ad (o+1)), .ref (ad (o+4)), .ref (ad (o+8)), .ref (ad (o+12)), .ref (ad (o+16)), .ref (ad (o+20)), .ref (ad (o+25)), .ref (ad (o+28)), .int r.1, .int r.2.1, .int r.2.2.1])) ::
  (wRes G ad (o+1) r.2.2.2.1 ++ (wGrp G ad (o+4) r.2.2.2.2.1 ++ (wGrp G ad (o+8) r.2.2.2.2.2.1 ++ (wGrp G ad (o+12) r.2.2.2.2.2.2.1 ++ (wGrp G ad (o+16) r.2.2.2.2.2.2.2.1 ++ (wPri G ad (o+20) r.2.2.2.2.2.2.2.2.1 ++ (wDis G ad (o+25) r.2.2.2.2.2.2.2.2.2.1 ++ wCha G ad (o+28) r.2.2.2.2.2.2.2.2.2.2)))))))
def wRR (G : GT) (ad : Nat → Nat) (o : Nat) (r : RRT) : va_W := (ad o, .inr (6, [.ref (ad (o+1)), .ref (ad (o+32)), .ref (ad (o+63)), .ref (ad (o+68)), .int r.1])) :: (wStr G ad (o+1) r.2.1 ++ (wStr G ad (o+32) r.2.2.1 ++ (wPri G ad (o+63) r.2.2.2.1 ++ wDis G ad (o+68) r.2.2.2.2)))
/-! reservoirs -/
def resStart (k : Int32) (r : ResT) : ResT := (k, 0, r.2.2.1, r.2.2.2)
noncomputable def resGive (r : ResT) (it po di : Int32) : ResT := sld (if r.1 < r.2.1 + 1 then (if r.1 ≤ rem_ di (r.2.1 + 1) then (r.1, r.2.1 + 1, r.2.2.1, r.2.2.2) else (r.1, r.2.1 + 1, put_ 16 r.2.2.1 (rem_ di (r.2.1 + 1)) it, put_ 16 r.2.2.2 (rem_ di (r.2.1 + 1)) po))
  else (if r.1 ≤ r.2.1 + 1 - 1 then (r.1, r.2.1 + 1, r.2.2.1, r.2.2.2) else (r.1, r.2.1 + 1, put_ 16 r.2.2.1 (r.2.1 + 1 - 1) it, put_ 16 r.2.2.2 (r.2.1 + 1 - 1) po)))
def resFilled (r : ResT) : Int32 := if r.1 < r.2.1 then r.1 else r.2.1
def grpStart (k : Int32) (g : GrpT) : GrpT := (0, resStart k g.2)
noncomputable def grpGive (g : GrpT) (it of po di : Int32) : GrpT := (g.1 + of, resGive g.2 it po di)
/-! priorities -/
def priStart (k : Int32) (r : PriT) : PriT := (k, 0, r.2.2)
def isG (r : PriT) (w d p : Int32) : Int32 := if lg_cmp (w.toInt64 * ((at_ 17 r.2.2.2.2.2 p).toInt64 + 1)) ((at_ 17 r.2.2.2.1 p).toInt64 * (d.toInt64 + 1)) ≤ 0 then 0 else 1
def pfL (r : PriT) (w d : Int32) : Nat → Int32 → Int32
  | 0, p => p
  | n + 1, p => if p ≤ 0 then p else if isG r w d (p - 1) = 0 then p else pfL r w d n (p + (-1))
def priPf (r : PriT) (w d : Int32) : Int32 := pfL r w d ((r.2.1.toInt - (0 : Int32).toInt).toNat + 1) r.2.1
noncomputable def priAdd (r : PriT) (it w g d : Int32) : PriT := sld (if priPf r w d ≤ r.1 then
    let h : Int32 := if r.1 + 1 < r.2.1 + 1 then r.1 + 1 else r.2.1 + 1
    (r.1, h, ins_ 17 r.2.2.1 (priPf r w d) h it, ins_ 17 r.2.2.2.1 (priPf r w d) h w, ins_ 17 r.2.2.2.2.1 (priPf r w d) h g, ins_ 17 r.2.2.2.2.2 (priPf r w d) h d)
  else r)
noncomputable def paL (q : PriT) (c : Int32) : Nat → Int32 → PriT → PriT
  | 0, _, r => r
  | n + 1, i, r => if c ≤ i then r else paL q c n (i + 1) (priAdd r (at_ 17 q.2.2.1 i) (at_ 17 q.2.2.2.1 i) (at_ 17 q.2.2.2.2.1 i) (at_ 17 q.2.2.2.2.2 i))
noncomputable def priAll (r q : PriT) : PriT := sld (paL q q.2.1 ((q.2.1.toInt - (0 : Int32).toInt).toNat + 1) 0 r)
def priSampled (r : PriT) : Int32 := if r.1 < r.2.1 then r.1 else r.2.1
def priBound (r : PriT) : Int64 := if r.1 < r.2.1 then quo_ ((at_ 17 r.2.2.2.1 r.1).toInt64 <<< ((31 : Int32).toInt64 &&& 63)) ((at_ 17 r.2.2.2.2.2 r.1).toInt64 + 1) else 0
def priEst (r : PriT) (p : Int32) : Int64 := if priBound r < (at_ 17 r.2.2.2.1 p).toInt64 then (at_ 17 r.2.2.2.1 p).toInt64 else priBound r
def esL (r : PriT) (g c : Int32) : Nat → Int64 → Int32 → Int64
  | 0, x, _ => x
  | n + 1, x, i => if c ≤ i then x else esL r g c n (if at_ 17 r.2.2.2.2.1 i = g then x + priEst r i else x) (i + 1)
def priEstSum (r : PriT) (g : Int32) : Int64 := esL r g (priSampled r) (((priSampled r).toInt - (0 : Int32).toInt).toNat + 1) 0 0
def wsL_ (r : PriT) (g c : Int32) : Nat → Int32 → Int32 → Int32
  | 0, x, _ => x
  | n + 1, x, i => if c ≤ i then x else wsL_ r g c n (if at_ 17 r.2.2.2.2.1 i = g then x + at_ 17 r.2.2.2.1 i else x) (i + 1)
def priWSum (r : PriT) (g : Int32) : Int32 := wsL_ r g (priSampled r) (((priSampled r).toInt - (0 : Int32).toInt).toNat + 1) 0 0
/-! distinct items -/
def disStart (k : Int32) (r : DisT) : DisT := (k, 0, r.2.2)
def hash_ (it : Int32) : Int64 := it.toInt64 * 2654435761 - it.toInt64 * 2654435761 / 4294967296 * 4294967296 + 1
def dfL (r : DisT) (h : Int64) : Nat → Int32 → Int32
  | 0, p => p
  | n + 1, p => if r.2.1 ≤ p then p else if 0 ≤ lg_cmp (hash_ (at_ 16 r.2.2.1 p)) h then p else dfL r h n (p + 1)
def disPf (r : DisT) (it : Int32) : Int32 := dfL r (hash_ it) ((r.2.1.toInt - (0 : Int32).toInt).toNat + 1) 0
noncomputable def disIns (r : DisT) (p it of : Int32) : DisT := sld (if p < r.1 then
    let h : Int32 := if r.1 < r.2.1 + 1 then r.1 else r.2.1 + 1
    (r.1, h, ins_ 16 r.2.2.1 p h it, ins_ 16 r.2.2.2 p h of)
  else r)
noncomputable def disAdd (r : DisT) (it of : Int32) : DisT := sld (if r.2.1 ≤ disPf r it then disIns r (disPf r it) it of
  else if at_ 16 r.2.2.1 (disPf r it) = it then (r.1, r.2.1, r.2.2.1, put_ 16 r.2.2.2 (disPf r it) (at_ 16 r.2.2.2 (disPf r it) + of))
  else disIns r (disPf r it) it of)
noncomputable def daL (q : DisT) (c : Int32) : Nat → Int32 → DisT → DisT
  | 0, _, r => r
  | n + 1, i, r => if c ≤ i then r else daL q c n (i + 1) (disAdd r (at_ 16 q.2.2.1 i) (at_ 16 q.2.2.2 i))
noncomputable def disAll (r q : DisT) : DisT := sld (daL q q.2.1 ((q.2.1.toInt - (0 : Int32).toInt).toNat + 1) 0 r)
def disEst (r : DisT) : Int64 := if r.1 ≤ r.2.1 then quo_ ((r.1 - 1).toInt64 * 4294967296) (hash_ (at_ 16 r.2.2.1 (r.1 - 1))) else r.2.1.toInt64
/-! the chain -/
def chaStart (k : Int32) (r : ChaT) : ChaT := (k, 0, 0, 0, r.2.2.2.2)
def chaApp (r : ChaT) (it po se : Int32) : ChaT := (r.1, r.2.1, r.2.2.1 + 1, po + 1 + rem_ se r.1, put_ 300 r.2.2.2.2.1 r.2.2.1 it, put_ 300 r.2.2.2.2.2 r.2.2.1 po)
def chL (po w en : Int32) (h : Nat → Int32) : Nat → Int32 → Int32
  | 0, s => s
  | n + 1, s => if en ≤ s then s else if po - w < at_ 300 h s then s else chL po w en h n (s + 1)
def chaCut (po : Int32) (r : ChaT) : ChaT := (r.1, chL po r.1 r.2.2.1 r.2.2.2.2.2 ((r.2.2.1.toInt - r.2.1.toInt).toNat + 1) r.2.1, r.2.2.1, r.2.2.2.1, r.2.2.2.2.1, r.2.2.2.2.2)
noncomputable def chaGive (r : ChaT) (it po fi se : Int32) : ChaT := sld (if rem_ fi (if r.1 < po then r.1 else po) = 0 then chaCut po (chaApp (r.1, 0, 0, r.2.2.2) it po se)
  else if po = r.2.2.2.1 then chaCut po (chaApp r it po se)
  else chaCut po r)
def chaLen (r : ChaT) : Int32 := r.2.2.1 - r.2.1
/-! streams -/
def strEmpty (r : StrT) : StrT :=
  (r.1, r.2.1, 0, resStart r.1 r.2.2.2.1, grpStart r.1 r.2.2.2.2.1, grpStart r.1 r.2.2.2.2.2.1, grpStart r.1 r.2.2.2.2.2.2.1, grpStart r.1 r.2.2.2.2.2.2.2.1, priStart r.1 r.2.2.2.2.2.2.2.2.1, disStart r.1 r.2.2.2.2.2.2.2.2.2.1, chaStart r.2.1 r.2.2.2.2.2.2.2.2.2.2)
def strStart (k w : Int32) (r : StrT) : StrT := strEmpty (k, w, r.2.2)
def grpRef (ad : Nat → Nat) (o : Nat) (g : Int32) : Nat := if g = 0 then ad (o+4) else if g = 1 then ad (o+8) else if g = 2 then ad (o+12) else ad (o+16)
theorem tb3 {x : Int32} (h0 : ¬ x = 0) (h1 : ¬ x = 1) (h2 : ¬ x = 2) : x.toInt < 0 ∨ 2 < x.toInt := by
  rw [← Int32.toInt_inj] at h0 h1 h2
  have a : (0 : Int32).toInt = 0 := rfl
  have b : (1 : Int32).toInt = 1 := rfl
  have c : (2 : Int32).toInt = 2 := rfl
  omega
theorem fst_arr (a : Nat) (x z : va_E) : ([(a, x)] : va_W).map Prod.fst = ([(a, z)] : va_W).map Prod.fst := rfl
theorem fst_Res (G : GT) (ad : Nat → Nat) (o : Nat) (r z : ResT) : (wRes G ad o r).map Prod.fst = (wRes G ad o z).map Prod.fst := rfl
theorem fst_Grp (G : GT) (ad : Nat → Nat) (o : Nat) (r z : GrpT) : (wGrp G ad o r).map Prod.fst = (wGrp G ad o z).map Prod.fst := rfl
theorem fst_Pri (G : GT) (ad : Nat → Nat) (o : Nat) (r z : PriT) : (wPri G ad o r).map Prod.fst = (wPri G ad o z).map Prod.fst := rfl
theorem fst_Dis (G : GT) (ad : Nat → Nat) (o : Nat) (r z : DisT) : (wDis G ad o r).map Prod.fst = (wDis G ad o z).map Prod.fst := rfl
theorem fst_Cha (G : GT) (ad : Nat → Nat) (o : Nat) (r z : ChaT) : (wCha G ad o r).map Prod.fst = (wCha G ad o z).map Prod.fst := rfl
theorem fst_Str (G : GT) (ad : Nat → Nat) (o : Nat) (r z : StrT) : (wStr G ad o r).map Prod.fst = (wStr G ad o z).map Prod.fst := by
  simp only [wStr, List.map_cons, List.map_append, fst_Res G ad _ r.2.2.2.1 z.2.2.2.1, fst_Grp G ad _ r.2.2.2.2.1 z.2.2.2.2.1, fst_Grp G ad _ r.2.2.2.2.2.1 z.2.2.2.2.2.1, fst_Grp G ad _ r.2.2.2.2.2.2.1 z.2.2.2.2.2.2.1, fst_Grp G ad _ r.2.2.2.2.2.2.2.1 z.2.2.2.2.2.2.2.1, fst_Pri G ad _ r.2.2.2.2.2.2.2.2.1 z.2.2.2.2.2.2.2.2.1, fst_Dis G ad _ r.2.2.2.2.2.2.2.2.2.1 z.2.2.2.2.2.2.2.2.2.1, fst_Cha G ad _ r.2.2.2.2.2.2.2.2.2.2 z.2.2.2.2.2.2.2.2.2.2]
theorem fst_RR (G : GT) (ad : Nat → Nat) (o : Nat) (r z : RRT) : (wRR G ad o r).map Prod.fst = (wRR G ad o z).map Prod.fst := by
  simp only [wRR, List.map_cons, List.map_append, fst_Str G ad _ r.2.1 z.2.1, fst_Str G ad _ r.2.2.1 z.2.2.1, fst_Pri G ad _ r.2.2.2.1 z.2.2.2.1, fst_Dis G ad _ r.2.2.2.2 z.2.2.2.2]
