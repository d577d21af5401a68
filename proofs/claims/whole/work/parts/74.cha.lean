/-! the chain -/
def chAl (fi : Nat → Int32) (base w n : Nat) : Bool := decide ((fi (base + n)).toNatClampNeg % min w (n + 1) = 0)
def chOld (w pos p : Nat) : Bool := decide (p + w ≤ pos)
def chNx (se : Nat → Int32) (base w n : Nat) : Nat := n + 1 + 1 + (se (base + n)).toNatClampNeg % w
def chAdd (fi : Nat → Int32) (base w n : Nat) (P : List Nat) (x : Nat) : List Nat := if chAl fi base w n = true then [n + 1] else if n + 1 = x then P ++ [n + 1] else P
def chS (fi se : Nat → Int32) (base w : Nat) : Nat → List Nat × Nat
  | 0 => ([], 0)
  | n + 1 => ((chAdd fi base w n (chS fi se base w n).1 (chS fi se base w n).2).dropWhile (chOld w (n + 1)), if chAl fi base w n = true then chNx se base w n else if n + 1 = (chS fi se base w n).2 then chNx se base w n else (chS fi se base w n).2)
theorem chOld_iff {w pos p : Nat} : chOld w pos p = true ↔ p + w ≤ pos := by
  unfold chOld
  exact decide_eq_true_iff
theorem dw_drop (f : Nat → Bool) : ∀ Q : List Nat, ∃ d, d ≤ Q.length ∧ Q.dropWhile f = Q.drop d := by
  intro Q
  induction Q with
  | nil => exact ⟨0, Nat.le_refl _, rfl⟩
  | cons q Q ih =>
    by_cases c : f q = true
    · obtain ⟨d, h1, h2⟩ := ih
      refine ⟨d + 1, by simpa using h1, ?_⟩
      rw [List.dropWhile_cons, if_pos c, h2]
      rfl
    · refine ⟨0, Nat.zero_le _, ?_⟩
      rw [List.dropWhile_cons, if_neg c]
      rfl
theorem dw_last {f : Nat → Bool} {p : Nat} (hp : ¬ f p = true) : ∀ Q : List Nat, Q.getLast? = some p → (Q.dropWhile f).getLast? = some p := by
  intro Q
  induction Q with
  | nil => intro h; exact h
  | cons q Q ih =>
    intro h
    by_cases c : f q = true
    · rw [List.dropWhile_cons, if_pos c]
      refine ih ?_
      cases Q with
      | nil =>
        simp at h
        subst h
        exact absurd c hp
      | cons r R =>
        rw [List.getLast?_cons_cons] at h
        exact h
    · rw [List.dropWhile_cons, if_neg c]
      exact h
theorem dw_mem {f : Nat → Bool} {Q : List Nat} {x : Nat} (h : x ∈ Q.dropWhile f) : x ∈ Q := by
  obtain ⟨d, -, e⟩ := dw_drop f Q
  rw [e] at h
  exact List.mem_of_mem_drop h
/-- what holds of every chain -/
theorem ch_inv {fi se : Nat → Int32} {base w : Nat} (hw : 1 ≤ w) : ∀ n, (chS fi se base w n).1.length ≤ n ∧ (∀ p ∈ (chS fi se base w n).1, 1 ≤ p ∧ p ≤ n) ∧ (chS fi se base w n).2 ≤ n + w + 1 ∧ (1 ≤ n → ∃ p, (chS fi se base w n).1.getLast? = some p ∧ (chS fi se base w n).2 ≤ p + w ∧ n < (chS fi se base w n).2) := by
  intro n
  induction n with
  | zero => exact ⟨Nat.le_refl _, fun p h => absurd h List.not_mem_nil, Nat.zero_le _, fun h => absurd h (by omega)⟩
  | succ n ih =>
    obtain ⟨i1, i2, i3, i4⟩ := ih
    have hmod := Nat.mod_lt (se (base + n)).toNatClampNeg (show 0 < w by omega)
    have e1 : (chS fi se base w (n + 1)).1 = (chAdd fi base w n (chS fi se base w n).1 (chS fi se base w n).2).dropWhile (chOld w (n + 1)) := rfl
    have e2 : (chS fi se base w (n + 1)).2 = if chAl fi base w n = true then chNx se base w n else if n + 1 = (chS fi se base w n).2 then chNx se base w n else (chS fi se base w n).2 := rfl
    generalize hP : (chS fi se base w n).1 = P at *
    generalize hx : (chS fi se base w n).2 = x at *
    have hnx : n + 1 < chNx se base w n ∧ chNx se base w n ≤ n + 1 + w := by
      unfold chNx
      omega
    have hA : (chAdd fi base w n P x).length ≤ n + 1 ∧ (∀ p ∈ chAdd fi base w n P x, 1 ≤ p ∧ p ≤ n + 1) ∧ ∃ p, (chAdd fi base w n P x).getLast? = some p ∧ (chS fi se base w (n + 1)).2 ≤ p + w ∧ n + 1 < (chS fi se base w (n + 1)).2 := by
      rw [e2]
      unfold chAdd
      by_cases c1 : chAl fi base w n = true
      · rw [if_pos c1, if_pos c1]
        refine ⟨by simp, fun p hp => ?_, n + 1, rfl, by omega, by omega⟩
        rw [List.mem_singleton] at hp
        omega
      · rw [if_neg c1, if_neg c1]
        by_cases c2 : n + 1 = x
        · rw [if_pos c2, if_pos c2]
          refine ⟨by simp; omega, fun p hp => ?_, n + 1, by simp, by omega, by omega⟩
          rcases List.mem_append.mp hp with q | q
          · have := i2 p q
            omega
          · rw [List.mem_singleton] at q
            omega
        · rw [if_neg c2, if_neg c2]
          have hn1 : 1 ≤ n := by
            rcases Nat.eq_zero_or_pos n with q | q
            · subst q
              exfalso
              refine c1 ?_
              unfold chAl
              rw [decide_eq_true_iff, show min w (0 + 1) = 1 by omega, Nat.mod_one]
            · exact q
          obtain ⟨p, p1, p2, p3⟩ := i4 hn1
          exact ⟨by omega, fun p hp => by have := i2 p hp; omega, p, p1, p2, by omega⟩
    obtain ⟨a1, a2, p, a3, a4, a5⟩ := hA
    obtain ⟨d, d1, d2⟩ := dw_drop (chOld w (n + 1)) (chAdd fi base w n P x)
    refine ⟨?_, fun q hq => ?_, ?_, fun _ => ⟨p, ?_, a4, a5⟩⟩
    · rw [e1, d2, List.length_drop]
      omega
    · rw [e1] at hq
      exact a2 q (dw_mem hq)
    · rw [e2]
      split
      · omega
      · split <;> omega
    · rw [e1]
      exact dw_last (fun h => by have := chOld_iff.mp h; omega) _ a3
theorem cmpw {pos w p : Nat} (h1 : pos < 1073741824) (h2 : w < 1073741824) (h3 : p < 1073741824) : nI pos - nI w < nI p ↔ ¬ chOld w pos p = true := by
  rw [chOld_iff, Int32.lt_iff_toInt_lt, pk_sub_toInt h1 h2, nI_toInt (by omega)]
  omega
/-! the class's chain -/
def RelCha (fi se it : Nat → Int32) (base w n : Nat) (r : ChaT) : Prop :=
  r.1 = nI w ∧ r.2.2.2.1 = nI (chS fi se base w n).2 ∧ ∃ s e : Nat, s + (chS fi se base w n).1.length = e ∧ e ≤ n ∧ r.2.1 = nI s ∧ r.2.2.1 = nI e ∧ ∀ i p, (chS fi se base w n).1[i]? = some p → r.2.2.2.2.1 (s + i) = it (base + p - 1) ∧ r.2.2.2.2.2 (s + i) = nI p
theorem RelCha.start {fi se it : Nat → Int32} {base w : Nat} (r : ChaT) : RelCha fi se it base w 0 (chaStart (nI w) r) :=
  ⟨rfl, nI_0.symm, 0, 0, rfl, Nat.le_refl _, nI_0.symm, nI_0.symm, fun i p h => by simp [chS] at h⟩
theorem cutL {w pos e : Nat} {h : Nat → Int32} (hw : w < 1073741824) (hpos : pos < 1073741824) (he : e ≤ 300) : ∀ (fu s : Nat) (Q : List Nat), s + Q.length = e → Q.length < fu → (∀ i p, Q[i]? = some p → h (s + i) = nI p ∧ p < 1073741824) → ∃ d, d ≤ Q.length ∧ Q.dropWhile (chOld w pos) = Q.drop d ∧ chL (nI pos) (nI w) (nI e) h fu (nI s) = nI (s + d) := by
  intro fu
  induction fu with
  | zero => intro s Q _ hq; exact absurd hq (Nat.not_lt_zero _)
  | succ fu ih =>
    intro s Q hs hf hQ
    unfold chL
    cases Q with
    | nil =>
      refine ⟨0, Nat.le_refl _, rfl, ?_⟩
      rw [if_pos (nI_le (by simp at hs; omega) (by omega))]
      rfl
    | cons q Q =>
      have hl : s + Q.length + 1 = e := by
        rw [List.length_cons] at hs
        omega
      have hf2 : Q.length < fu := by
        rw [List.length_cons] at hf
        omega
      obtain ⟨h0, hq⟩ := hQ 0 q rfl
      rw [Nat.add_zero] at h0
      rw [if_neg (nI_ge (by omega) (by omega)), at_nI (by omega) (by decide), h0]
      by_cases c : chOld w pos q = true
      · rw [if_neg (fun hh => (cmpw hpos hw hq).mp hh c), nI_1]
        obtain ⟨d, d1, d2, d3⟩ := ih (s + 1) Q (by omega) hf2 (fun i p hp => by
          have := hQ (i + 1) p (by rw [List.getElem?_cons_succ]; exact hp)
          rw [show s + 1 + i = s + (i + 1) by omega]
          exact this)
        refine ⟨d + 1, by rw [List.length_cons]; omega, ?_, ?_⟩
        · rw [List.dropWhile_cons, if_pos c, d2]
          rfl
        · rw [d3]
          congr 1
          omega
      · rw [if_pos ((cmpw hpos hw hq).mpr c)]
        refine ⟨0, Nat.zero_le _, ?_, rfl⟩
        rw [List.dropWhile_cons, if_neg c]
        rfl
theorem RelCha.give {fi se it : Nat → Int32} {base w n : Nat} {r : ChaT} (h : RelCha fi se it base w n r) (hw : 1 ≤ w) (hw2 : w ≤ 64) (hn : n < 300) (hV : (∃ b, b < 2147483648 ∧ fi (base + n) = nI b) ∧ ∃ b, b < 2147483648 ∧ se (base + n) = nI b) :
    RelCha fi se it base w (n + 1) (chaGive r (it (base + n)) (nI (n + 1)) (fi (base + n)) (se (base + n))) := by
  obtain ⟨i1, i2, i3, i4⟩ := ch_inv (fi := fi) (se := se) (base := base) hw n
  obtain ⟨h1, h2, s, e, h3, h4, h5, h6, h7⟩ := h
  obtain ⟨⟨b, hb, eb⟩, d, hd, ed⟩ := hV
  have hmod := Nat.mod_lt (se (base + n)).toNatClampNeg (show 0 < w by omega)
  have e1 : (chS fi se base w (n + 1)).1 = (chAdd fi base w n (chS fi se base w n).1 (chS fi se base w n).2).dropWhile (chOld w (n + 1)) := rfl
  have e2 : (chS fi se base w (n + 1)).2 = if chAl fi base w n = true then chNx se base w n else if n + 1 = (chS fi se base w n).2 then chNx se base w n else (chS fi se base w n).2 := rfl
  generalize hP : (chS fi se base w n).1 = P at *
  generalize hx : (chS fi se base w n).2 = x at *
  have hrem : rem_ (fi (base + n)) (if r.1 < nI (n + 1) then r.1 else nI (n + 1)) = nI ((fi (base + n)).toNatClampNeg % min w (n + 1)) := by
    rw [h1, nI_min (by omega) (by omega), eb, nI_clamp (by omega), rem_nI (by omega) (by omega) (by omega)]
  have hz : nI ((fi (base + n)).toNatClampNeg % min w (n + 1)) = 0 ↔ chAl fi base w n = true := by
    have := Nat.mod_lt (fi (base + n)).toNatClampNeg (show 0 < min w (n + 1) by omega)
    unfold chAl
    rw [decide_eq_true_iff, show (0 : Int32) = nI 0 from rfl, nI_eq (by omega) (by omega)]
  have hnx : nI (n + 1) + 1 + rem_ (se (base + n)) (nI w) = nI (chNx se base w n) := by
    unfold chNx
    rw [nI_1, ed, rem_nI (by omega) (by omega) (by omega), nI_add, nI_clamp (by omega)]
  -- the cut, of any chain that holds a list
  have cut : ∀ (Q : List Nat) (y : Nat) (u : ChaT) (s2 e2 : Nat), u.1 = nI w → u.2.2.2.1 = nI y → s2 + Q.length = e2 → e2 ≤ n + 1 → u.2.1 = nI s2 → u.2.2.1 = nI e2 → (∀ p ∈ Q, p < 1073741824) → (∀ i p, Q[i]? = some p → u.2.2.2.2.1 (s2 + i) = it (base + p - 1) ∧ u.2.2.2.2.2 (s2 + i) = nI p) →
      Q = chAdd fi base w n P x → y = (chS fi se base w (n + 1)).2 → RelCha fi se it base w (n + 1) (chaCut (nI (n + 1)) u) := by
    intro Q y u s2 e2 u1 u2 u3 u4 u5 u6 u7 u8 u9 u10
    have hlen : ((nI e2).toInt - (nI s2).toInt).toNat = Q.length := by
      rw [nI_toInt (by omega), nI_toInt (by omega)]
      omega
    obtain ⟨d, d1, d2, d3⟩ := cutL (w := w) (pos := n + 1) (e := e2) (h := u.2.2.2.2.2) (by omega) (by omega) (by omega) (Q.length + 1) s2 Q u3 (Nat.lt_succ_self _) (fun i p hp => ⟨(u8 i p hp).2, u7 p (List.mem_of_getElem? hp)⟩)
    refine ⟨u1, by rw [← u10]; exact u2, s2 + d, e2, ?_, u4, ?_, u6, fun i p hp => ?_⟩
    · rw [e1, ← u9, d2, List.length_drop]
      omega
    · show chL (nI (n + 1)) u.1 u.2.2.1 u.2.2.2.2.2 ((u.2.2.1.toInt - u.2.1.toInt).toNat + 1) u.2.1 = _
      rw [u1, u5, u6, hlen]
      exact d3
    · rw [e1, ← u9, d2, List.getElem?_drop] at hp
      have := u8 (d + i) p hp
      rw [← Nat.add_assoc] at this
      exact this
  have hPb : ∀ p ∈ P, p < 1073741824 := fun p hp => by have := i2 p hp; omega
  unfold chaGive
  rw [sld_eq, hrem]
  by_cases c1 : chAl fi base w n = true
  · rw [if_pos (hz.mpr c1)]
    refine cut [n + 1] (chNx se base w n) _ 0 1 h1 ?_ rfl (by omega) nI_0.symm ?_ (fun p hp => by rw [List.mem_singleton] at hp; omega) ?_ (by unfold chAdd; rw [if_pos c1]) (by rw [e2, if_pos c1])
    · show nI (n + 1) + 1 + rem_ (se (base + n)) r.1 = _
      rw [h1, hnx]
    · show (0 : Int32) + 1 = nI 1
      rfl
    · intro i p hp
      cases i with
      | zero =>
        cases hp
        show put_ 300 r.2.2.2.2.1 (nI 0) (it (base + n)) 0 = it (base + (n + 1) - 1) ∧ put_ 300 r.2.2.2.2.2 (nI 0) (nI (n + 1)) 0 = nI (n + 1)
        rw [put_nI (by omega) (by decide), put_nI (by omega) (by decide), pk_us, pk_us]
        exact ⟨rfl, rfl⟩
      | succ i => cases hp
  · rw [if_neg (fun hh => c1 (hz.mp hh))]
    have hxe : nI (n + 1) = r.2.2.2.1 ↔ n + 1 = x := by
      rw [h2, nI_eq (by omega) (by omega)]
    by_cases c2 : n + 1 = x
    · rw [if_pos (hxe.mpr c2)]
      refine cut (P ++ [n + 1]) (chNx se base w n) _ s (e + 1) h1 ?_ (by simp; omega) (by omega) h5 ?_ ?_ ?_ (by unfold chAdd; rw [if_neg c1, if_pos c2]) (by rw [e2, if_neg c1, if_pos c2])
      · show nI (n + 1) + 1 + rem_ (se (base + n)) r.1 = _
        rw [h1, hnx]
      · show r.2.2.1 + 1 = _
        rw [h6, nI_1]
      · intro p hp
        rcases List.mem_append.mp hp with q | q
        · exact hPb p q
        · rw [List.mem_singleton] at q
          omega
      · intro i p hp
        show put_ 300 r.2.2.2.2.1 r.2.2.1 (it (base + n)) (s + i) = it (base + p - 1) ∧ put_ 300 r.2.2.2.2.2 r.2.2.1 (nI (n + 1)) (s + i) = nI p
        rw [h6, put_nI (by omega) (by decide), put_nI (by omega) (by decide)]
        by_cases ci : i < P.length
        · rw [List.getElem?_append_left ci] at hp
          rw [pk_un (by omega), pk_un (by omega)]
          exact h7 i p hp
        · rw [List.getElem?_append_right (by omega)] at hp
          have : i - P.length = 0 := by
            rcases Nat.eq_zero_or_pos (i - P.length) with q | q
            · exact q
            · obtain ⟨j, hj⟩ : ∃ j, i - P.length = j + 1 := ⟨i - P.length - 1, by omega⟩
              rw [hj] at hp
              cases hp
          rw [this] at hp
          cases hp
          rw [show s + i = e by omega, pk_us, pk_us]
          exact ⟨rfl, rfl⟩
    · rw [if_neg (fun hh => c2 (hxe.mp hh))]
      exact cut P x r s e h1 h2 h3 (by omega) h5 h6 hPb h7 (by unfold chAdd; rw [if_neg c1, if_neg c2]) (by rw [e2, if_neg c1, if_neg c2])
