/-! the class itself -/
def rrStart (k w : Int32) (r : RRT) : RRT := (k, strStart k w r.2.1, strStart k w r.2.2.1, r.2.2.2)
def rrStr (r : RRT) (st : Int32) : StrT := if st = 0 then r.2.1 else r.2.2.1
def rrSet (r : RRT) (st : Int32) (t : StrT) : RRT := if st = 0 then (r.1, t, r.2.2) else (r.1, r.2.1, t, r.2.2.2)
def strGrp (r : StrT) (g : Int32) : GrpT := if g = 0 then r.2.2.2.2.1 else if g = 1 then r.2.2.2.2.2.1 else if g = 2 then r.2.2.2.2.2.2.1 else r.2.2.2.2.2.2.2.1
noncomputable def rrPriM (r : RRT) : PriT := priAll (priAll (priStart r.1 r.2.2.2.1) r.2.1.2.2.2.2.2.2.2.2.1) r.2.2.1.2.2.2.2.2.2.2.2.1
noncomputable def rrPri (r : RRT) (st : Int32) : PriT := if st = 2 then rrPriM r else if st = 0 then r.2.1.2.2.2.2.2.2.2.2.1 else r.2.2.1.2.2.2.2.2.2.2.2.1
noncomputable def rrMP (r : RRT) (st : Int32) : RRT := if st = 2 then (r.1, r.2.1, r.2.2.1, rrPriM r, r.2.2.2.2) else r
noncomputable def rrDisM (r : RRT) : DisT := disAll (disAll (disStart r.1 r.2.2.2.2) r.2.1.2.2.2.2.2.2.2.2.2.1) r.2.2.1.2.2.2.2.2.2.2.2.2.1
noncomputable def rrDis (r : RRT) (st : Int32) : DisT := if st = 2 then rrDisM r else if st = 0 then r.2.1.2.2.2.2.2.2.2.2.2.1 else r.2.2.1.2.2.2.2.2.2.2.2.2.1
noncomputable def rrMD (r : RRT) (st : Int32) : RRT := if st = 2 then (r.1, r.2.1, r.2.2.1, r.2.2.2.1, rrDisM r) else r
def rrCha (r : RRT) (st : Int32) : ChaT := (rrStr r st).2.2.2.2.2.2.2.2.2.2
