noncomputable def strTake (r : StrT) (it w g fi se : Int32) : StrT :=
  let n : Int32 := r.2.2.1 + 1
  (r.1, r.2.1, n, resGive r.2.2.2.1 it n fi,
   (if g = 0 then grpGive r.2.2.2.2.1 it w n fi else r.2.2.2.2.1),
   (if g = 0 then r.2.2.2.2.2.1 else if g = 1 then grpGive r.2.2.2.2.2.1 it w n fi else r.2.2.2.2.2.1),
   (if g = 0 then r.2.2.2.2.2.2.1 else if g = 1 then r.2.2.2.2.2.2.1 else if g = 2 then grpGive r.2.2.2.2.2.2.1 it w n fi else r.2.2.2.2.2.2.1),
   (if g = 0 then r.2.2.2.2.2.2.2.1 else if g = 1 then r.2.2.2.2.2.2.2.1 else if g = 2 then r.2.2.2.2.2.2.2.1 else grpGive r.2.2.2.2.2.2.2.1 it w n fi),
   priAdd r.2.2.2.2.2.2.2.2.1 it w g fi, disAdd r.2.2.2.2.2.2.2.2.2.1 it 1, chaGive r.2.2.2.2.2.2.2.2.2.2 it n fi se)
