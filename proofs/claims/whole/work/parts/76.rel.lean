/-! a stream: what the class holds of its offers -/
theorem rsC_fr {M M' : Nat → Bool} {base : Nat} : ∀ {n : Nat}, (∀ a, base ≤ a → a < base + n → M' a = M a) → rsC M' base n = rsC M base n := by
  intro n
  induction n with
  | zero => intro _; rfl
  | succ n ih =>
    intro h
    show rsC M' base n + (if M' (base + n) = true then 1 else 0) = rsC M base n + (if M (base + n) = true then 1 else 0)
    rw [ih (fun a h1 h2 => h a h1 (by omega)), h (base + n) (by omega) (by omega)]
theorem rsF_fr {fi fi' : Nat → Int32} {M M' : Nat → Bool} {base k : Nat} {sl : Int32} : ∀ {n : Nat}, (∀ a, base ≤ a → a < base + n → M' a = M a ∧ fi' a = fi a) → rsF fi' M' base k sl n = rsF fi M base k sl n := by
  intro n
  induction n with
  | zero => intro _; rfl
  | succ n ih =>
    intro h
    obtain ⟨h1, h2⟩ := h (base + n) (by omega) (by omega)
    have e : rsI fi' M' base k n = rsI fi M base k n := by
      unfold rsI
      rw [rsC_fr (fun a q1 q2 => (h a q1 (by omega)).1), h2]
    show (if M' (base + n) = true then (if nI (rsI fi' M' base k n) = sl ∧ rsI fi' M' base k n < k then some (base + n) else rsF fi' M' base k sl n) else rsF fi' M' base k sl n) = (if M (base + n) = true then (if nI (rsI fi M base k n) = sl ∧ rsI fi M base k n < k then some (base + n) else rsF fi M base k sl n) else rsF fi M base k sl n)
    rw [ih (fun a q1 q2 => h a q1 (by omega)), e, h1]
theorem RelRes.frame {fi fi' it it' : Nat → Int32} {M M' : Nat → Bool} {base k n : Nat} {r : ResT} (h : RelRes fi it M base k n r) (ha : ∀ a, base ≤ a → a < base + n → M' a = M a ∧ fi' a = fi a ∧ it' a = it a) : RelRes fi' it' M' base k n r := by
  refine ⟨h.1, by rw [h.2.1, rsC_fr (fun a q1 q2 => (ha a q1 q2).1)], fun s z hs hz => ?_⟩
  rw [rsF_fr (fun a q1 q2 => ⟨(ha a q1 q2).1, (ha a q1 q2).2.1⟩)] at hz
  have hr := rsF_rng hz
  rw [(ha z hr.1 hr.2.1).2.2]
  exact h.2.2 s z hs hz
theorem Top.congrR {R R' : Nat → Nat → Bool} {m : Nat} {X : Nat → Prop} {T : List Nat} (h : Top R m X T) (he : ∀ x y, X x → X y → R' x y = R x y) : Top R' m X T := by
  refine ⟨?_, h.2.1, h.2.2.1, fun x hx hn => ⟨(h.2.2.2 x hx hn).1, fun t ht => ?_⟩⟩
  · have hp := h.1
    rw [List.pairwise_iff_getElem] at hp ⊢
    intro i j hi hj hij
    rw [he _ _ (h.2.2.1 _ (List.getElem_mem hi)) (h.2.2.1 _ (List.getElem_mem hj))]
    exact hp i j hi hj hij
  · rw [he t x (h.2.2.1 t ht) hx]
    exact (h.2.2.2 x hx hn).2 t ht
theorem RelPri.frame {it we gr fi it' we' gr' fi' : Nat → Int32} {k : Nat} {X : Nat → Prop} {T : List Nat} {q : PriT} (h : RelPri it we gr fi k X T q) (ha : ∀ a, X a → it' a = it a ∧ we' a = we a ∧ gr' a = gr a ∧ fi' a = fi a) : RelPri it' we' gr' fi' k X T q := by
  refine ⟨h.1.congrR (fun x y hx hy => ?_), h.2.1, h.2.2.1, fun p x hp => ?_⟩
  · have a1 := ha x hx
    have a2 := ha y hy
    unfold Rp ow
    rw [a1.2.1, a1.2.2.2, a2.2.1, a2.2.2.2]
  · have a1 := ha x (h.1.2.2.1 x (List.mem_of_getElem? hp))
    rw [a1.1, a1.2.1, a1.2.2.1, a1.2.2.2]
    exact h.2.2.2 p x hp
theorem RelDis.frame {it it' : Nat → Int32} {P : Nat → Bool} {k : Nat} {T : List Nat} {q : DisT} (h : RelDis k (Xv it P) (Cv it P) T q) (ha : ∀ a, P a = true → it' a = it a) : RelDis k (Xv it' P) (Cv it' P) T q := by
  refine h.mono (h.1.congr (fun v => ?_)) (fun v _ => ?_)
  · unfold Xv
    constructor
    · rintro ⟨a, h1, h2, h3⟩
      exact ⟨a, h1, h2, by unfold vl; rw [ha a h2]; exact h3⟩
    · rintro ⟨a, h1, h2, h3⟩
      unfold vl at h3
      rw [ha a h2] at h3
      exact ⟨a, h1, h2, h3⟩
  · refine cnt_eq (fun x _ => bool_ext ?_)
    rw [Bool.and_eq_true, Bool.and_eq_true, eqv_iff, eqv_iff]
    unfold vl
    constructor
    · rintro ⟨h1, h2⟩
      exact ⟨h1, by rw [ha x h1]; exact h2⟩
    · rintro ⟨h1, h2⟩
      rw [ha x h1] at h2
      exact ⟨h1, h2⟩
theorem chS_fr {fi se fi' se' : Nat → Int32} {base w : Nat} : ∀ {n : Nat}, (∀ a, base ≤ a → a < base + n → fi' a = fi a ∧ se' a = se a) → chS fi' se' base w n = chS fi se base w n := by
  intro n
  induction n with
  | zero => intro _; rfl
  | succ n ih =>
    intro h
    obtain ⟨h1, h2⟩ := h (base + n) (by omega) (by omega)
    have e := ih (fun a q1 q2 => h a q1 (by omega))
    show ((chAdd fi' base w n (chS fi' se' base w n).1 (chS fi' se' base w n).2).dropWhile (chOld w (n + 1)), if chAl fi' base w n = true then chNx se' base w n else if n + 1 = (chS fi' se' base w n).2 then chNx se' base w n else (chS fi' se' base w n).2) = _
    have e1 : chAl fi' base w n = chAl fi base w n := by unfold chAl; rw [h1]
    have e2 : chNx se' base w n = chNx se base w n := by unfold chNx; rw [h2]
    have e3 : ∀ P x, chAdd fi' base w n P x = chAdd fi base w n P x := fun P x => by unfold chAdd; rw [e1]
    rw [e, e1, e2, e3]
    rfl
theorem RelCha.frame {fi se it fi' se' it' : Nat → Int32} {base w n : Nat} {r : ChaT} (h : RelCha fi se it base w n r) (hw : 1 ≤ w) (ha : ∀ a, base ≤ a → a < base + n → fi' a = fi a ∧ se' a = se a ∧ it' a = it a) : RelCha fi' se' it' base w n r := by
  have hm := (ch_inv (fi := fi) (se := se) (base := base) hw n).2.1
  unfold RelCha at *
  rw [chS_fr (fun a q1 q2 => ⟨(ha a q1 q2).1, (ha a q1 q2).2.1⟩)]
  obtain ⟨h1, h2, s, e, h3, h4, h5, h6, h7⟩ := h
  refine ⟨h1, h2, s, e, h3, h4, h5, h6, fun i p hp => ?_⟩
  have := hm p (List.mem_of_getElem? hp)
  rw [(ha (base + p - 1) (by omega) (by omega)).2.2]
  exact h7 i p hp
/-- an offer's numbers -/
def VO (it we gr fi se : Nat → Int32) (a : Nat) : Prop := (∃ v, v ≤ 1000000 ∧ it a = nI v) ∧ VP we fi a ∧ (∃ g, g ≤ 3 ∧ gr a = nI g) ∧ ∃ b, b < 2147483648 ∧ se a = nI b
def RelStr (it we gr fi se : Nat → Int32) (base n k w : Nat) (t : StrT) : Prop :=
  t.1 = nI k ∧ t.2.1 = nI w ∧ t.2.2.1 = nI n ∧ RelRes fi it (MG gr (-1)) base k n t.2.2.2.1 ∧ (∀ g, g ≤ 3 → RelGrp fi it we gr base k n (nI g) (strGrp t (nI g))) ∧
  (∃ T, RelPri it we gr fi k (fun x => inB base n x = true) T t.2.2.2.2.2.2.2.2.1) ∧ (∃ T, RelDis k (Xv it (inB base n)) (Cv it (inB base n)) T t.2.2.2.2.2.2.2.2.2.1) ∧ RelCha fi se it base w n t.2.2.2.2.2.2.2.2.2.2
theorem RelStr.frame {it we gr fi se it' we' gr' fi' se' : Nat → Int32} {base n k w : Nat} {t : StrT} (h : RelStr it we gr fi se base n k w t) (hw : 1 ≤ w) (ha : ∀ a, base ≤ a → a < base + n → it' a = it a ∧ we' a = we a ∧ gr' a = gr a ∧ fi' a = fi a ∧ se' a = se a) : RelStr it' we' gr' fi' se' base n k w t := by
  obtain ⟨h1, h2, h3, h4, h5, ⟨T, h6⟩, ⟨S, h7⟩, h8⟩ := h
  have hM : ∀ g a, base ≤ a → a < base + n → MG gr' g a = MG gr g a := fun g a q1 q2 => by unfold MG; rw [(ha a q1 q2).2.2.1]
  refine ⟨h1, h2, h3, h4.frame (fun a q1 q2 => ⟨hM _ a q1 q2, (ha a q1 q2).2.2.2.1, (ha a q1 q2).1⟩), fun g hg => ⟨?_, (h5 g hg).2.frame (fun a q1 q2 => ⟨hM _ a q1 q2, (ha a q1 q2).2.2.2.1, (ha a q1 q2).1⟩)⟩, ⟨T, h6.frame (fun a q => ?_)⟩, ⟨S, h7.frame (fun a q => ?_)⟩, h8.frame hw (fun a q1 q2 => ⟨(ha a q1 q2).2.2.2.1, (ha a q1 q2).2.2.2.2, (ha a q1 q2).1⟩)⟩
  · rw [(h5 g hg).1]
    refine sumI_eq (fun a _ => ?_)
    unfold GW
    by_cases c : inB base n a = true
    · have q := inB_iff.mp c
      rw [(ha a q.1 q.2).2.1, (ha a q.1 q.2).2.2.1]
    · rw [if_neg c, if_neg c]
  · have q2 := inB_iff.mp q
    have := ha a q2.1 q2.2
    exact ⟨this.1, this.2.1, this.2.2.1, this.2.2.2.1⟩
  · have q2 := inB_iff.mp q
    exact (ha a q2.1 q2.2).1
theorem strGrp_take {t : StrT} {ia wa fa sa : Int32} {g0 g : Nat} (h0 : g0 ≤ 3) (h : g ≤ 3) : strGrp (strTake t ia wa (nI g0) fa sa) (nI g) = if g0 = g then grpGive (strGrp t (nI g)) ia wa (t.2.2.1 + 1) fa else strGrp t (nI g) := by
  have a0 : g0 = 0 ∨ g0 = 1 ∨ g0 = 2 ∨ g0 = 3 := by omega
  have a1 : g = 0 ∨ g = 1 ∨ g = 2 ∨ g = 3 := by omega
  rcases a0 with rfl | rfl | rfl | rfl <;> rcases a1 with rfl | rfl | rfl | rfl <;> rfl
theorem strGrp_empty {t : StrT} {g : Nat} (h : g ≤ 3) : strGrp (strEmpty t) (nI g) = grpStart t.1 (strGrp t (nI g)) := by
  have a1 : g = 0 ∨ g = 1 ∨ g = 2 ∨ g = 3 := by omega
  rcases a1 with rfl | rfl | rfl | rfl <;> rfl
theorem RelStr.empty {it we gr fi se : Nat → Int32} {base k w : Nat} {t : StrT} (h1 : t.1 = nI k) (h2 : t.2.1 = nI w) : RelStr it we gr fi se base 0 k w (strEmpty t) := by
  have hno : ∀ x, ¬ inB base 0 x = true := fun x hx => by have := inB_iff.mp hx; omega
  refine ⟨h1, h2, nI_0.symm, ?_, fun g hg => ?_, ⟨[], ?_⟩, ⟨[], ?_⟩, ?_⟩
  · show RelRes _ _ _ _ _ _ (resStart t.1 _)
    rw [h1]
    exact RelRes.start _
  · rw [strGrp_empty hg, h1]
    exact RelGrp.start _
  · show RelPri _ _ _ _ _ _ _ (priStart t.1 _)
    rw [h1]
    exact RelPri.start hno _
  · show RelDis _ _ _ _ (disStart t.1 _)
    rw [h1]
    exact RelDis.start (fun v hv => by obtain ⟨a, -, ha, -⟩ := hv; exact hno a ha) _
  · show RelCha _ _ _ _ _ _ (chaStart t.2.1 _)
    rw [h2]
    exact RelCha.start _
theorem RelStr.take {it we gr fi se : Nat → Int32} {base n k w : Nat} {t : StrT} (h : RelStr it we gr fi se base n k w t) (hk : k ≤ 16) (hw : 1 ≤ w) (hw2 : w ≤ 64) (hn : n < 300) (hb : base = 0 ∨ base = 300) (hV : ∀ a, base ≤ a → a < base + n + 1 → VO it we gr fi se a) :
    RelStr it we gr fi se base (n + 1) k w (strTake t (it (base + n)) (we (base + n)) (gr (base + n)) (fi (base + n)) (se (base + n))) := by
  obtain ⟨h1, h2, h3, h4, h5, ⟨T, h6⟩, ⟨S, h7⟩, h8⟩ := h
  obtain ⟨⟨v, hv, ev⟩, hP, ⟨g0, hg0, eg⟩, hse⟩ := hV (base + n) (by omega) (by omega)
  have hbase : base % 300 = 0 := by omega
  have hb6 : base + n < 600 := by omega
  have hn1 : t.2.2.1 + 1 = nI (n + 1) := by rw [h3, nI_1]
  have hVP : ∀ x, inB base n x = true → VP we fi x := fun x hx => by
    have := inB_iff.mp hx
    exact (hV x (by omega) (by omega)).2.1
  refine ⟨h1, h2, hn1, ?_, fun g hg => ?_, ?_, ?_, ?_⟩
  · show RelRes _ _ _ _ _ _ (resGive t.2.2.2.1 (it (base + n)) (t.2.2.1 + 1) (fi (base + n)))
    rw [hn1]
    exact h4.give hk hn hbase (MG_iff.mpr (Or.inl rfl)) hP.2
  · rw [eg, strGrp_take hg0 hg, hn1]
    by_cases c : g0 = g
    · subst c
      rw [if_pos rfl]
      exact (h5 g0 hg).give hk hn hbase hb6 eg hP.2
    · rw [if_neg c]
      exact (h5 g hg).skip (nI_m1ne (by omega)) (fun e => c ((nI_eq (by omega) (by omega)).mp (eg.symm.trans e)))
  · obtain ⟨T', hT'⟩ := h6.add hk hVP hP (fun hh => by have := inB_iff.mp hh; omega) (fun x hx _ => by
      have := inB_iff.mp (h6.1.2.2.1 x hx)
      omega)
    exact ⟨T', hT'.mono (hT'.1.congr (fun x => inB_s.symm))⟩
  · have hvl : vl it (base + n) = v := by
      unfold vl
      rw [ev, nI_clamp (by omega)]
    obtain ⟨T', hT'⟩ := h7.add (c := 1) hk (fun u hu => by
      obtain ⟨a, -, ha, rfl⟩ := hu
      have q := inB_iff.mp ha
      obtain ⟨⟨u, hu, eu⟩, -⟩ := hV a (by omega) (by omega)
      unfold vl
      rw [eu, nI_clamp (by omega)]
      exact hu) hv (fun hx => Cv_zero hx)
    rw [← ev] at hT'
    refine ⟨T', hT'.mono (hT'.1.congr (fun u => ?_)) (fun u _ => ?_)⟩
    · constructor
      · rintro (⟨a, q1, q2, q3⟩ | rfl)
        · exact ⟨a, q1, inB_s.mpr (Or.inl q2), q3⟩
        · exact ⟨base + n, hb6, inB_s.mpr (Or.inr rfl), hvl⟩
      · rintro ⟨a, q1, q2, q3⟩
        rcases inB_s.mp q2 with q2 | rfl
        · exact Or.inl ⟨a, q1, q2, q3⟩
        · exact Or.inr (q3.symm.trans hvl)
    · show Cv it (inB base n) u + (if u = v then 1 else 0) = Cv it (inB base (n + 1)) u
      unfold Cv
      rw [cnt_add (b := fun a => inB base (n + 1) a && eqv it u a) (b0 := fun a => inB base n a && eqv it u a) (b1 := fun a => decide (a = base + n ∧ u = v))]
      · have e : cnt (fun a => decide (a = base + n ∧ u = v)) 600 = if u = v then 1 else 0 := by
          by_cases c : u = v
          · rw [if_pos c, cnt_one (y := base + n) hb6]
            intro a _
            rw [decide_eq_true_iff]
            exact ⟨fun hh => hh.1, fun hh => ⟨hh, c⟩⟩
          · rw [if_neg c, cnt_zero]
            intro a _ hh
            exact c (of_decide_eq_true hh).2
        rw [e]
      · intro a _
        rw [Bool.and_eq_true, Bool.and_eq_true, eqv_iff, inB_s, decide_eq_true_iff]
        constructor
        · rintro ⟨q1 | rfl, q2⟩
          · exact Or.inl ⟨q1, q2⟩
          · exact Or.inr ⟨rfl, q2.symm.trans hvl⟩
        · rintro (⟨q1, q2⟩ | ⟨rfl, q2⟩)
          · exact ⟨Or.inl q1, q2⟩
          · exact ⟨Or.inr rfl, by rw [q2]; exact hvl⟩
      · intro a _
        rw [Bool.and_eq_true, decide_eq_true_iff, inB_iff]
        omega
  · show RelCha _ _ _ _ _ _ (chaGive t.2.2.2.2.2.2.2.2.2.2 (it (base + n)) (t.2.2.1 + 1) (fi (base + n)) (se (base + n)))
    rw [hn1]
    exact h8.give hw hw2 hn ⟨hP.2, hse⟩
