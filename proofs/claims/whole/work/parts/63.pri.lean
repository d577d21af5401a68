/-! the order by priorities -/
def ow (we fi : Nat → Int32) (x z : Nat) : Nat := (we x).toNatClampNeg * ((fi z).toNatClampNeg + 1)
def Rp (we fi : Nat → Int32) (x z : Nat) : Bool := decide (ow we fi z x < ow we fi x z ∨ (ow we fi x z = ow we fi z x ∧ x < z))
theorem Rp_iff {we fi : Nat → Int32} {x z : Nat} : Rp we fi x z = true ↔ ow we fi z x < ow we fi x z ∨ (ow we fi x z = ow we fi z x ∧ x < z) := by
  unfold Rp
  exact decide_eq_true_iff
theorem tri_le {a b c d e f : Nat} (hd : 0 < d) (h1 : c * b ≤ a * d) (h2 : e * d ≤ c * f) : e * b ≤ a * f := by
  have q : e * b * d ≤ a * f * d := by
    calc e * b * d = (e * d) * b := by ac_rfl
      _ ≤ (c * f) * b := Nat.mul_le_mul_right b h2
      _ = (c * b) * f := by ac_rfl
      _ ≤ (a * d) * f := Nat.mul_le_mul_right f h1
      _ = a * f * d := by ac_rfl
  exact Nat.le_of_mul_le_mul_right q hd
theorem tri_lt1 {a b c d e f : Nat} (hf : 0 < f) (h1 : c * b < a * d) (h2 : e * d ≤ c * f) : e * b < a * f := by
  have q : e * b * d < a * f * d := by
    calc e * b * d = (e * d) * b := by ac_rfl
      _ ≤ (c * f) * b := Nat.mul_le_mul_right b h2
      _ = (c * b) * f := by ac_rfl
      _ < (a * d) * f := Nat.mul_lt_mul_of_pos_right h1 hf
      _ = a * f * d := by ac_rfl
  exact Nat.lt_of_mul_lt_mul_right q
theorem tri_lt2 {a b c d e f : Nat} (hb : 0 < b) (h1 : c * b ≤ a * d) (h2 : e * d < c * f) : e * b < a * f := by
  have q : e * b * d < a * f * d := by
    calc e * b * d = (e * d) * b := by ac_rfl
      _ < (c * f) * b := Nat.mul_lt_mul_of_pos_right h2 hb
      _ = (c * b) * f := by ac_rfl
      _ ≤ (a * d) * f := Nat.mul_le_mul_right f h1
      _ = a * f * d := by ac_rfl
  exact Nat.lt_of_mul_lt_mul_right q
theorem Rp_so (we fi : Nat → Int32) : SO (Rp we fi) := by
  refine ⟨?_, ?_, ?_⟩
  · intro x y z h1 h2
    rw [Rp_iff] at h1 h2 ⊢
    unfold ow at h1 h2 ⊢
    have hx := Nat.succ_pos (fi x).toNatClampNeg
    have hy := Nat.succ_pos (fi y).toNatClampNeg
    have hz := Nat.succ_pos (fi z).toNatClampNeg
    rcases h1 with h1 | ⟨h1, l1⟩
    · rcases h2 with h2 | ⟨h2, l2⟩
      · exact Or.inl (tri_lt1 hz h1 (Nat.le_of_lt h2))
      · exact Or.inl (tri_lt1 hz h1 (Nat.le_of_eq h2.symm))
    · rcases h2 with h2 | ⟨h2, l2⟩
      · exact Or.inl (tri_lt2 hx (Nat.le_of_eq h1.symm) h2)
      · refine Or.inr ⟨?_, Nat.lt_trans l1 l2⟩
        exact Nat.le_antisymm (tri_le hy (Nat.le_of_eq h2) (Nat.le_of_eq h1)) (tri_le hy (Nat.le_of_eq h1.symm) (Nat.le_of_eq h2.symm))
  · intro x h
    rw [Rp_iff] at h
    omega
  · intro x y hxy
    rw [Rp_iff, Rp_iff]
    omega
/-- an offer's numbers, as the document bounds them -/
def VP (we fi : Nat → Int32) (x : Nat) : Prop := (∃ a, 1 ≤ a ∧ a ≤ 1000000 ∧ we x = nI a) ∧ ∃ b, b < 2147483648 ∧ fi x = nI b
theorem ow_l {we fi : Nat → Int32} {x z : Nat} (hx : VP we fi x) (hz : VP we fi z) : (we x).toInt64 * ((fi z).toInt64 + 1) = lN (ow we fi x z) ∧ ow we fi x z < 9223372036854775808 := by
  obtain ⟨⟨a, a1, a2, ea⟩, -⟩ := hx
  obtain ⟨-, b, b1, eb⟩ := hz
  unfold ow
  rw [ea, eb, nI_clamp (by omega), nI_clamp (by omega), nI_l (by omega), nI_l (by omega), lN_1, lN_mul]
  refine ⟨rfl, ?_⟩
  calc a * (b + 1) ≤ 1000000 * 2147483648 := Nat.mul_le_mul a2 (by omega)
    _ < 9223372036854775808 := by decide
/-- what the class holds of a set of offers -/
def RelPri (it we gr fi : Nat → Int32) (k : Nat) (X : Nat → Prop) (T : List Nat) (q : PriT) : Prop :=
  Top (Rp we fi) (k + 1) X T ∧ q.1 = nI k ∧ q.2.1 = nI T.length ∧ ∀ p x, T[p]? = some x → q.2.2.1 p = it x ∧ q.2.2.2.1 p = we x ∧ q.2.2.2.2.1 p = gr x ∧ q.2.2.2.2.2 p = fi x
theorem RelPri.igq {it we gr fi : Nat → Int32} {k : Nat} {X : Nat → Prop} {T : List Nat} {q : PriT} (h : RelPri it we gr fi k X T q) (hk : k ≤ 16) (hX : ∀ x, X x → VP we fi x) {y i x : Nat} (hy : VP we fi y) (hi : T[i]? = some x) : isG q (we y) (fi y) (nI i) = 0 ↔ ow we fi y x ≤ ow we fi x y := by
  obtain ⟨h1, h2, h3, h4⟩ := h
  have hl : i < T.length := (List.getElem?_eq_some_iff.mp hi).1
  have hlm := h1.2.1
  have hx := hX x (h1.2.2.1 x (List.mem_of_getElem? hi))
  obtain ⟨-, e1, -, e2⟩ := h4 i x hi
  unfold isG
  rw [at_nI (by omega) (by decide), at_nI (by omega) (by decide), e1, e2, (ow_l hy hx).1, (ow_l hx hy).1]
  constructor
  · intro h
    by_cases c : lg_cmp (lN (ow we fi y x)) (lN (ow we fi x y)) ≤ 0
    · rw [lg_cmp_le, pk_lLE (ow_l hy hx).2 (ow_l hx hy).2] at c
      exact c
    · rw [if_neg c] at h
      exact absurd h (by decide)
  · intro h
    rw [if_pos]
    rw [lg_cmp_le, pk_lLE (ow_l hy hx).2 (ow_l hx hy).2]
    exact h
theorem pf_spec {q : PriT} {w d : Int32} : ∀ (fu h : Nat), h < fu → h < 2147483648 → ∃ p, p ≤ h ∧ pfL q w d fu (nI h) = nI p ∧ (∀ i, p ≤ i → i < h → ¬ isG q w d (nI i) = 0) ∧ (p = 0 ∨ isG q w d (nI (p - 1)) = 0) := by
  intro fu
  induction fu with
  | zero => intro h hf; exact absurd hf (Nat.not_lt_zero _)
  | succ fu ih =>
    intro h hf hb
    unfold pfL
    rcases Nat.eq_zero_or_pos h with rfl | hp
    · rw [if_pos (show nI 0 ≤ 0 by decide)]
      exact ⟨0, Nat.le_refl _, rfl, fun i _ hi => absurd hi (Nat.not_lt_zero _), Or.inl rfl⟩
    · rw [if_neg (nI_nle hp (by omega))]
      obtain ⟨e, rfl⟩ : ∃ e, h = e + 1 := ⟨h - 1, by omega⟩
      rw [nI_pred, pk_m1]
      by_cases c : isG q w d (nI e) = 0
      · rw [if_pos c]
        exact ⟨e + 1, Nat.le_refl _, rfl, fun i h1 h2 => by omega, Or.inr c⟩
      · rw [if_neg c]
        obtain ⟨p, p1, p2, p3, p4⟩ := ih e (by omega) (by omega)
        refine ⟨p, by omega, p2, fun i h1 h2 => ?_, p4⟩
        rcases Nat.lt_or_ge i e with q1 | q1
        · exact p3 i h1 q1
        · have : i = e := by omega
          subst this
          exact c
theorem mem_take_get {T : List Nat} {p t : Nat} (h : t ∈ T.take p) : ∃ i, i < p ∧ T[i]? = some t := by
  obtain ⟨i, hi⟩ := List.getElem?_of_mem h
  rw [List.getElem?_take] at hi
  by_cases c : i < p
  · rw [if_pos c] at hi
    exact ⟨i, c, hi⟩
  · rw [if_neg c] at hi
    cases hi
theorem mem_drop_get {T : List Nat} {p t : Nat} (h : t ∈ T.drop p) : ∃ i, p ≤ i ∧ T[i]? = some t := by
  obtain ⟨i, hi⟩ := List.getElem?_of_mem h
  rw [List.getElem?_drop] at hi
  exact ⟨p + i, by omega, hi⟩
theorem pw_get {R : Nat → Nat → Bool} {T : List Nat} (h : T.Pairwise (fun a b => R a b = true)) {i j a b : Nat} (hij : i < j) (hi : T[i]? = some a) (hj : T[j]? = some b) : R a b = true := by
  obtain ⟨h1, e1⟩ := List.getElem?_eq_some_iff.mp hi
  obtain ⟨h2, e2⟩ := List.getElem?_eq_some_iff.mp hj
  rw [← e1, ← e2]
  exact (List.pairwise_iff_getElem.mp h) i j h1 h2 hij
theorem RelPri.add {it we gr fi : Nat → Int32} {k : Nat} {X : Nat → Prop} {T : List Nat} {q : PriT} (h : RelPri it we gr fi k X T q) (hk : k ≤ 16) (hX : ∀ x, X x → VP we fi x) {y : Nat} (hy : VP we fi y) (hn : ¬ X y) (hc : ∀ x ∈ T, ow we fi y x = ow we fi x y → x < y) :
    ∃ T', RelPri it we gr fi k (fun x => X x ∨ x = y) T' (priAdd q (it y) (we y) (gr y) (fi y)) := by
  have hR := Rp_so we fi
  have h0 := h
  obtain ⟨h1, h2, h3, h4⟩ := h
  have hlm := h1.2.1
  have hyT : y ∉ T := fun e => hn (h1.2.2.1 y e)
  obtain ⟨p, p1, p2, p3, p4⟩ := pf_spec (q := q) (w := we y) (d := fi y) (T.length + 1) T.length (by omega) (by omega)
  have hpf : priPf q (we y) (fi y) = nI p := by
    unfold priPf
    rw [h3, nI_toInt (by omega), show (0 : Int32).toInt = 0 from rfl]
    exact p2
  have hd : ∀ t ∈ T.drop p, Rp we fi y t = true := by
    intro t ht
    obtain ⟨i, hi, hg⟩ := mem_drop_get ht
    have hl := (List.getElem?_eq_some_iff.mp hg).1
    have := p3 i hi hl
    rw [h0.igq hk hX hy hg] at this
    rw [Rp_iff]
    omega
  have ht : ∀ t ∈ T.take p, Rp we fi t y = true := by
    intro t ht
    obtain ⟨i, hi, hg⟩ := mem_take_get ht
    rcases p4 with p4 | p4
    · omega
    · obtain ⟨z, hz⟩ : ∃ z, T[p - 1]? = some z := ⟨_, List.getElem?_eq_getElem (by omega)⟩
      rw [h0.igq hk hX hy hz] at p4
      have hzT := List.mem_of_getElem? hz
      have hzy : Rp we fi z y = true := by
        rw [Rp_iff]
        rcases Nat.lt_or_ge (ow we fi y z) (ow we fi z y) with q1 | q1
        · exact Or.inl q1
        · have := hc z hzT (by omega)
          exact Or.inr ⟨by omega, this⟩
      rcases Nat.lt_or_ge i (p - 1) with q1 | q1
      · exact hR.1 _ _ _ (pw_get h1.1 q1 hg hz) hzy
      · have e : i = p - 1 := by omega
        subst e
        cases hz.symm.trans hg
        exact hzy
  unfold priAdd
  rw [sld_eq, hpf, h2]
  by_cases c : nI p ≤ nI k
  · rw [if_pos c]
    rw [nI_leI (by omega) (by omega)] at c
    refine ⟨(T.take p ++ y :: T.drop p).take (k + 1), h1.add hR hn ht hd, rfl, ?_, ?_⟩
    · show (if nI k + 1 < q.2.1 + 1 then nI k + 1 else q.2.1 + 1) = _
      rw [h3, nI_1, nI_1, nI_min (by omega) (by omega), tk_len p1]
    · intro j x hj
      show ins_ 17 q.2.2.1 (nI p) (if nI k + 1 < q.2.1 + 1 then nI k + 1 else q.2.1 + 1) (it y) j = it x ∧ ins_ 17 q.2.2.2.1 (nI p) (if nI k + 1 < q.2.1 + 1 then nI k + 1 else q.2.1 + 1) (we y) j = we x ∧ ins_ 17 q.2.2.2.2.1 (nI p) (if nI k + 1 < q.2.1 + 1 then nI k + 1 else q.2.1 + 1) (gr y) j = gr x ∧ ins_ 17 q.2.2.2.2.2 (nI p) (if nI k + 1 < q.2.1 + 1 then nI k + 1 else q.2.1 + 1) (fi y) j = fi x
      rw [h3, nI_1, nI_1, nI_min (by omega) (by omega)]
      have hjl : j < min (k + 1) (T.length + 1) := by
        rw [← tk_len (y := y) p1]
        exact (List.getElem?_eq_some_iff.mp hj).1
      rw [tk_get p1, if_pos (by omega)] at hj
      rw [ins_nI (by decide) (by omega) (by omega), ins_nI (by decide) (by omega) (by omega), ins_nI (by decide) (by omega) (by omega), ins_nI (by decide) (by omega) (by omega)]
      by_cases c1 : j < p
      · rw [if_pos c1] at hj
        simp only [if_pos c1]
        exact h4 j x hj
      · rw [if_neg c1] at hj
        simp only [if_neg c1]
        by_cases c2 : j = p
        · rw [if_pos c2] at hj
          cases hj
          simp only [if_pos c2]
          exact ⟨trivial, trivial, trivial, trivial⟩
        · rw [if_neg c2] at hj
          simp only [if_neg c2]
          have c3 : j < min (k + 1) (T.length + 1) := by omega
          simp only [if_pos c3]
          exact h4 (j - 1) x hj
  · rw [if_neg c]
    rw [nI_leI (by omega) (by omega)] at c
    have hT : T.take p = T := List.take_of_length_le (by omega)
    rw [hT] at ht
    exact ⟨T, h1.full (by omega) ht, h2, h3, h4⟩
