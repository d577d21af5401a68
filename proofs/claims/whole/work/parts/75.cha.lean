/-! the reference's chain -/
def Rep (Q : List Nat) (h : Nat → Int32) : Prop := ∀ i p, Q[i]? = some p → h i = nI p
theorem sh_spec {c : Nat} (hc : c ≤ 300) : ∀ (fu j : Nat) (h : Nat → Int32), j ≤ c → c - j < fu → ∀ i, mShL c fu j h i = if j ≤ i ∧ i < c then h (i + 1) else h i := by
  intro fu
  induction fu with
  | zero => intro j h _ hf; exact absurd hf (Nat.not_lt_zero _)
  | succ fu ih =>
    intro j h hj hf i
    unfold mShL
    by_cases cj : c ≤ j
    · rw [if_pos (nI_le cj (by omega)), if_neg (by omega)]
    · rw [if_neg (fun hh => cj ((nI_leI (by omega) (by omega)).mp hh)), nI_1, nI_clamp (by omega), nI_clamp (by omega), ih (j + 1) _ (by omega) (by omega)]
      by_cases ci : j + 1 ≤ i ∧ i < c
      · rw [if_pos ci, if_pos (by omega), pk_un (by omega)]
      · rw [if_neg ci]
        by_cases ce : i = j
        · subst ce
          rw [pk_us, if_pos (by omega)]
        · rw [pk_un ce, if_neg (by omega)]
theorem Rep.shift {q : Nat} {Q : List Nat} {h : Nat → Int32} (hr : Rep (q :: Q) h) (hl : Q.length ≤ 300) : Rep Q (mShL Q.length (Q.length - 0 + 1) 0 h) := by
  intro i p hp
  have := (List.getElem?_eq_some_iff.mp hp).1
  rw [sh_spec hl _ 0 h (Nat.zero_le _) (by omega), if_pos (by omega)]
  exact hr (i + 1) p (by rw [List.getElem?_cons_succ]; exact hp)
theorem chW_spec {w n : Nat} (hw : w < 1073741824) (hn : n < 1073741824) : ∀ (fu : Nat) (Q : List Nat) (h : Nat → Int32), Q.length < fu → Q.length ≤ 300 → Rep Q h → (∀ p ∈ Q, p < 1073741824) → Q.dropWhile (chOld w n) ≠ [] →
    (mChW (nI w) n fu Q.length h).1 = (Q.dropWhile (chOld w n)).length ∧ Rep (Q.dropWhile (chOld w n)) (mChW (nI w) n fu Q.length h).2 ∧ mWt (nI w) n Q.length h := by
  intro fu
  induction fu with
  | zero => intro Q h hf; exact absurd hf (Nat.not_lt_zero _)
  | succ fu ih =>
    intro Q h hf hl hr hb hne
    cases Q with
    | nil => exact absurd rfl hne
    | cons q Q =>
      have h0 : h (0 : Int32).toNatClampNeg = nI q := hr 0 q rfl
      have hq := hb q List.mem_cons_self
      have hl2 : Q.length ≤ 300 := by rw [List.length_cons] at hl; omega
      have hf2 : Q.length < fu := by rw [List.length_cons] at hf; omega
      rw [List.length_cons]
      by_cases c : chOld w n q = true
      · have hcmp : ¬ nI n - nI w < h (0 : Int32).toNatClampNeg := by
          rw [h0]
          exact fun hh => (cmpw hn hw hq).mp hh c
        rw [List.dropWhile_cons, if_pos c] at hne ⊢
        have := ih Q _ hf2 hl2 (hr.shift hl2) (fun p hp => hb p (List.mem_cons_of_mem _ hp)) hne
        have e : mChW (nI w) n (fu + 1) (Q.length + 1) h = mChW (nI w) n fu Q.length (mShL Q.length (Q.length - 0 + 1) 0 h) := by
          show (if nI n - nI w < h (0 : Int32).toNatClampNeg then _ else _) = _
          rw [if_neg hcmp]
          rfl
        rw [e]
        exact ⟨this.1, this.2.1, Or.inr this.2.2⟩
      · have hcmp : nI n - nI w < h (0 : Int32).toNatClampNeg := by
          rw [h0]
          exact (cmpw hn hw hq).mpr c
        rw [List.dropWhile_cons, if_neg c]
        have e : mChW (nI w) n (fu + 1) (Q.length + 1) h = (Q.length + 1, h) := by
          show (if nI n - nI w < h (0 : Int32).toNatClampNeg then _ else _) = _
          rw [if_pos hcmp]
        rw [e]
        exact ⟨rfl, hr, Or.inl hcmp⟩
theorem rc_spec {fi se : Nat → Int32} {j w N : Nat} (hj : j ≤ 1) (hw : 1 ≤ w) (hw2 : w ≤ 64) (hN : N ≤ 300) (hV : ∀ a, a < N → (∃ b, b < 2147483648 ∧ fi (300 * j + a) = nI b) ∧ ∃ b, b < 2147483648 ∧ se (300 * j + a) = nI b) :
    ∀ (fu n : Nat) (h : Nat → Int32), n ≤ N → N - n < fu → Rep (chS fi se (300 * j) w n).1 h →
      (mRcL (nI w) fi se (nI j) (nI N) fu (n + 1) (chS fi se (300 * j) w n).1.length (nI (chS fi se (300 * j) w n).2) h).1 = (chS fi se (300 * j) w N).1.length ∧
      (mRcL (nI w) fi se (nI j) (nI N) fu (n + 1) (chS fi se (300 * j) w n).1.length (nI (chS fi se (300 * j) w n).2) h).2.1 = nI (chS fi se (300 * j) w N).2 ∧
      Rep (chS fi se (300 * j) w N).1 (mRcL (nI w) fi se (nI j) (nI N) fu (n + 1) (chS fi se (300 * j) w n).1.length (nI (chS fi se (300 * j) w n).2) h).2.2 ∧
      mRcT (nI w) fi se (nI j) (nI N) fu (n + 1) (chS fi se (300 * j) w n).1.length (nI (chS fi se (300 * j) w n).2) h := by
  intro fu
  induction fu with
  | zero => intro n h _ hf; exact absurd hf (Nat.not_lt_zero _)
  | succ fu ih =>
    intro n h hn hf hr
    have hLu : ∀ c x, mRcL (nI w) fi se (nI j) (nI N) (fu + 1) (n + 1) c x h = mRcL (nI w) fi se (nI j) (nI N) (fu + 1) (n + 1) c x h := fun _ _ => rfl
    unfold mRcL mRcT
    by_cases c : n = N
    · subst c
      have hlt : nI n < nI (n + 1) := nI_lt (by omega) (by omega)
      rw [if_pos hlt, if_pos hlt]
      exact ⟨rfl, rfl, hr, trivial⟩
    · have hnlt : ¬ nI N < nI (n + 1) := nI_nlt (by omega) (by omega)
      rw [if_neg hnlt, if_neg hnlt]
      obtain ⟨i1, i2, i3, i4⟩ := ch_inv (fi := fi) (se := se) (base := 300 * j) hw n
      have i5 := (ch_inv (fi := fi) (se := se) (base := 300 * j) hw (n + 1)).2.2.2 (by omega)
      obtain ⟨⟨b, hb, eb⟩, d, hd, ed⟩ := hV n (by omega)
      have hmod := Nat.mod_lt (se (300 * j + n)).toNatClampNeg (show 0 < w by omega)
      have e1 : (chS fi se (300 * j) w (n + 1)).1 = (chAdd fi (300 * j) w n (chS fi se (300 * j) w n).1 (chS fi se (300 * j) w n).2).dropWhile (chOld w (n + 1)) := rfl
      have e2 : (chS fi se (300 * j) w (n + 1)).2 = if chAl fi (300 * j) w n = true then chNx se (300 * j) w n else if n + 1 = (chS fi se (300 * j) w n).2 then chNx se (300 * j) w n else (chS fi se (300 * j) w n).2 := rfl
      have hih := ih (n + 1)
      generalize hP : (chS fi se (300 * j) w n).1 = P at *
      generalize hx : (chS fi se (300 * j) w n).2 = x at *
      have hat : (300 * nI j + nI (n + 1) - 1).toNatClampNeg = 300 * j + n := by
        rw [show (300 : Int32) = nI 300 from rfl, pk_mul, nI_add, ← Nat.add_assoc, nI_pred, nI_clamp (by omega)]
      rw [hat]
      have hz : ∀ q : Nat, q = min w (n + 1) → (fi (300 * j + n) - fi (300 * j + n) / nI q * nI q = 0 ↔ chAl fi (300 * j) w n = true) := by
        intro q hq
        have := Nat.mod_lt b (show 0 < q by omega)
        rw [eb, pk_rem (by omega) (by omega) (by omega), show (0 : Int32) = nI 0 from rfl, nI_eq (by omega) (by omega)]
        unfold chAl
        rw [decide_eq_true_iff, eb, nI_clamp (by omega), hq]
      have hnx : nI (n + 1) + 1 + (se (300 * j + n) - se (300 * j + n) / nI w * nI w) = nI (chNx se (300 * j) w n) := by
        unfold chNx
        rw [nI_1, ed, pk_rem (by omega) (by omega) (by omega), nI_add, nI_clamp (by omega)]
      rw [hnx]
      have hn1 : n + 1 ≤ N := by omega
      have hf1 : N - (n + 1) < fu := by omega
      -- one step with a list of its own
      have run : ∀ (Q : List Nat) (y : Nat) (h2 : Nat → Int32), Q.length ≤ 300 → Rep Q h2 → (∀ p ∈ Q, p < 1073741824) → Q = chAdd fi (300 * j) w n P x → y = (chS fi se (300 * j) w (n + 1)).2 →
          ((mRcL (nI w) fi se (nI j) (nI N) fu (n + 1 + 1) (mChW (nI w) (n + 1) (Q.length + 1) Q.length h2).1 (nI y) (mChW (nI w) (n + 1) (Q.length + 1) Q.length h2).2).1 = (chS fi se (300 * j) w N).1.length ∧
          (mRcL (nI w) fi se (nI j) (nI N) fu (n + 1 + 1) (mChW (nI w) (n + 1) (Q.length + 1) Q.length h2).1 (nI y) (mChW (nI w) (n + 1) (Q.length + 1) Q.length h2).2).2.1 = nI (chS fi se (300 * j) w N).2 ∧
          Rep (chS fi se (300 * j) w N).1 (mRcL (nI w) fi se (nI j) (nI N) fu (n + 1 + 1) (mChW (nI w) (n + 1) (Q.length + 1) Q.length h2).1 (nI y) (mChW (nI w) (n + 1) (Q.length + 1) Q.length h2).2).2.2 ∧
          mWt (nI w) (n + 1) Q.length h2 ∧ mRcT (nI w) fi se (nI j) (nI N) fu (n + 1 + 1) (mChW (nI w) (n + 1) (Q.length + 1) Q.length h2).1 (nI y) (mChW (nI w) (n + 1) (Q.length + 1) Q.length h2).2) := by
        intro Q y h2 q1 q2 q3 q4 q5
        obtain ⟨p, p1, -, -⟩ := i5
        have hne : Q.dropWhile (chOld w (n + 1)) ≠ [] := by
          rw [q4, ← e1]
          intro hh
          rw [hh] at p1
          cases p1
        obtain ⟨s1, s2, s3⟩ := chW_spec (w := w) (n := n + 1) (by omega) (by omega) (Q.length + 1) Q h2 (Nat.lt_succ_self _) q1 q2 q3 hne
        rw [q4, ← e1] at s1 s2
        rw [← q4] at s1 s2
        have := hih _ hn1 hf1 s2
        rw [q5, s1]
        exact ⟨this.1, this.2.1, this.2.2.1, s3, this.2.2.2⟩
      have hPb : ∀ p ∈ P, p < 1073741824 := fun p hp => by have := i2 p hp; omega
      have one : chAl fi (300 * j) w n = true → _ := fun c1 => run [n + 1] (chNx se (300 * j) w n) (upd h (0 : Int32).toNatClampNeg (nI (n + 1))) (by simp) (by
        intro i p hp
        cases i with
        | zero =>
          cases hp
          exact pk_us
        | succ i => cases hp) (fun p hp => by rw [List.mem_singleton] at hp; omega) (by unfold chAdd; rw [if_pos c1]) (by rw [e2, if_pos c1])
      have add : ¬ chAl fi (300 * j) w n = true → n + 1 = x → _ := fun c1 c2 => run (P ++ [n + 1]) (chNx se (300 * j) w n) (upd h (nI P.length).toNatClampNeg (nI (n + 1))) (by simp; omega) (by
        intro i p hp
        rw [nI_clamp (by omega)]
        by_cases ci : i < P.length
        · rw [List.getElem?_append_left ci] at hp
          rw [pk_un (by omega)]
          exact hr i p hp
        · rw [List.getElem?_append_right (by omega)] at hp
          have : i - P.length = 0 := by
            rcases Nat.eq_zero_or_pos (i - P.length) with q | q
            · exact q
            · obtain ⟨u, hu⟩ : ∃ u, i - P.length = u + 1 := ⟨i - P.length - 1, by omega⟩
              rw [hu] at hp
              cases hp
          rw [this] at hp
          cases hp
          rw [show i = P.length by omega]
          exact pk_us) (fun p hp => by
            rcases List.mem_append.mp hp with q | q
            · exact hPb p q
            · rw [List.mem_singleton] at q
              omega) (by unfold chAdd; rw [if_neg c1, if_pos c2]) (by rw [e2, if_neg c1, if_pos c2])
      have skp : ¬ chAl fi (300 * j) w n = true → ¬ n + 1 = x → _ := fun c1 c2 => run P x h (by omega) hr hPb (by unfold chAdd; rw [if_neg c1, if_neg c2]) (by rw [e2, if_neg c1, if_neg c2])
      rw [show (P ++ [n + 1]).length = P.length + 1 by simp] at add
      have hxe : nI (n + 1) = nI x ↔ n + 1 = x := nI_eq (by omega) (by omega)
      by_cases cw : nI w ≤ nI (n + 1)
      · rw [if_pos cw, if_pos cw]
        have cw2 := (nI_leI (by omega) (by omega)).mp cw
        have hz2 := hz w (by omega)
        by_cases c1 : chAl fi (300 * j) w n = true
        · rw [if_pos (hz2.mpr c1), if_pos (hz2.mpr c1)]
          exact one c1
        · rw [if_neg (fun hh => c1 (hz2.mp hh)), if_neg (fun hh => c1 (hz2.mp hh))]
          by_cases c2 : n + 1 = x
          · rw [if_pos (hxe.mpr c2), if_pos (hxe.mpr c2)]
            exact add c1 c2
          · rw [if_neg (fun hh => c2 (hxe.mp hh)), if_neg (fun hh => c2 (hxe.mp hh))]
            exact skp c1 c2
      · rw [if_neg cw, if_neg cw]
        have cw2 : ¬ w ≤ n + 1 := fun hh => cw (nI_le hh (by omega))
        have hz2 := hz (n + 1) (by omega)
        by_cases c1 : chAl fi (300 * j) w n = true
        · rw [if_pos (hz2.mpr c1), if_pos (hz2.mpr c1)]
          exact one c1
        · rw [if_neg (fun hh => c1 (hz2.mp hh)), if_neg (fun hh => c1 (hz2.mp hh))]
          by_cases c2 : n + 1 = x
          · rw [if_pos (hxe.mpr c2), if_pos (hxe.mpr c2)]
            exact add c1 c2
          · rw [if_neg (fun hh => c2 (hxe.mp hh)), if_neg (fun hh => c2 (hxe.mp hh))]
            exact skp c1 c2
