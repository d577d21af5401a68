/-! what is asked of the sample by priorities: class and reference -/
section
variable {it we gr fi many : Nat → Int32} {n0 n1 st k : Nat} {T : List Nat} {q : PriT}
def PQ (it we gr fi many : Nat → Int32) (n0 n1 st k : Nat) (T : List Nat) (q : PriT) : Prop :=
  RelPri it we gr fi k (fun x => XS n0 n1 st x = true) T q ∧ MC many n0 n1 ∧ st ≤ 2 ∧ 2 ≤ k ∧ k ≤ 16 ∧ ∀ x, XS n0 n1 st x = true → VP we fi x
theorem PQ.rk (h : PQ it we gr fi many n0 n1 st k T q) {p : Nat} (hp : p ≤ k) : mRk many we fi (nI st) (nI p) = plc T p :=
  rk_spec h.2.1 h.2.2.1 h.2.2.2.2.2 h.1.1 (by omega) (by have := h.2.2.2.2.1; omega)
theorem PQ.len (h : PQ it we gr fi many n0 n1 st k T q) : T.length = min (k + 1) (allN n0 n1 st) := by
  have hm := h.2.1
  rw [h.1.1.len (Rp_so we fi) (fun x hx => XS_lt hm.2.2.1 hm.2.2.2 hx) (b := XS n0 n1 st) (fun x _ => Iff.rfl), cnt_XS hm.2.2.1 hm.2.2.2 h.2.2.1]
theorem PQ.size (h : PQ it we gr fi many n0 n1 st k T q) : priSampled q = mSam many (nI k) (nI st) := by
  rw [h.1.sampled h.2.2.2.2.1, sam_N h.2.1 h.2.2.1 h.2.2.2.2.1, h.len]
  congr 1
  omega
theorem PQ.sizeN (h : PQ it we gr fi many n0 n1 st k T q) : mSam many (nI k) (nI st) = nI (min k T.length) := by
  rw [← h.size, h.1.sampled h.2.2.2.2.1]
theorem PQ.place (h : PQ it we gr fi many n0 n1 st k T q) {sl : Int32} : okP sl (priSampled q) ↔ okA sl 0 (mSam many (nI k) (nI st) - 1) := by
  have := h.2.2.2.2.1
  rw [h.size, h.sizeN, okPA (by omega)]
theorem PQ.at (h : PQ it we gr fi many n0 n1 st k T q) {sl : Int32} (hs : okP sl (priSampled q)) : ∃ p z, p < k ∧ p < T.length ∧ sl = nI p ∧ T[p]? = some z ∧ z < 600 ∧ mRk many we fi (nI st) sl = nI z := by
  have := h.2.2.2.2.1
  have hm := h.2.1
  rw [h.size, h.sizeN] at hs
  obtain ⟨p, hp, rfl⟩ := okP_nI (by omega) hs
  obtain ⟨z, hz⟩ : ∃ z, T[p]? = some z := ⟨_, List.getElem?_eq_getElem (by omega)⟩
  exact ⟨p, z, by omega, by omega, rfl, hz, XS_lt hm.2.2.1 hm.2.2.2 (h.1.1.2.2.1 z (List.mem_of_getElem? hz)), by rw [h.rk (by omega), plc_some hz]⟩
theorem PQ.vin (h : PQ it we gr fi many n0 n1 st k T q) {sl : Int32} (hs : okP sl (priSampled q)) : vp_in (mRk many we fi (nI st) sl) 600 := by
  obtain ⟨p, z, -, -, -, -, hz, e⟩ := h.at hs
  rw [e]
  exact vp_nI hz (by decide)
theorem PQ.item (h : PQ it we gr fi many n0 n1 st k T q) {sl : Int32} (hs : okP sl (priSampled q)) : at_ 17 q.2.2.1 sl = it (mRk many we fi (nI st) sl).toNatClampNeg := by
  have := h.2.2.2.2.1
  obtain ⟨p, z, h1, h2, rfl, h4, hz, e⟩ := h.at hs
  rw [e, nI_clamp (by omega), at_nI (by omega) (by decide), (h.1.2.2.2 p z h4).1]
theorem PQ.weight (h : PQ it we gr fi many n0 n1 st k T q) {sl : Int32} (hs : okP sl (priSampled q)) : at_ 17 q.2.2.2.1 sl = we (mRk many we fi (nI st) sl).toNatClampNeg := by
  have := h.2.2.2.2.1
  obtain ⟨p, z, h1, h2, rfl, h4, hz, e⟩ := h.at hs
  rw [e, nI_clamp (by omega), at_nI (by omega) (by decide), (h.1.2.2.2 p z h4).2.1]
theorem PQ.group (h : PQ it we gr fi many n0 n1 st k T q) {sl : Int32} (hs : okP sl (priSampled q)) : at_ 17 q.2.2.2.2.1 sl = gr (mRk many we fi (nI st) sl).toNatClampNeg := by
  have := h.2.2.2.2.1
  obtain ⟨p, z, h1, h2, rfl, h4, hz, e⟩ := h.at hs
  rw [e, nI_clamp (by omega), at_nI (by omega) (by decide), (h.1.2.2.2 p z h4).2.2.1]
theorem PQ.thrOk (h : PQ it we gr fi many n0 n1 st k T q) : mRk many we fi (nI st) (nI k) = (-1) ∨ okRk fi (mRk many we fi (nI st) (nI k)) := by
  have hm := h.2.1
  rw [h.rk (Nat.le_refl k)]
  rcases hq : T[k]? with _ | z
  · exact Or.inl (plc_none hq)
  · rw [plc_some hq]
    have hX := h.1.1.2.2.1 z (List.mem_of_getElem? hq)
    have hz := XS_lt hm.2.2.1 hm.2.2.2 hX
    obtain ⟨-, b, b1, eb⟩ := h.2.2.2.2.2 z hX
    refine Or.inr ⟨vp_nI hz (by decide), ?_⟩
    rw [nI_clamp (by omega), eb, nI_l (by omega), lN_1]
    intro hh
    have := (pk_lEQ (a := b + 1) (b := 0) (by omega) (by omega)).mp hh
    omega
theorem PQ.thr (h : PQ it we gr fi many n0 n1 st k T q) : priBound q = mThr many we fi (nI k) (nI st) := by
  have hm := h.2.1
  rw [h.1.bound h.2.2.2.2.1 h.2.2.2.2.2]
  unfold mThr mTh
  rw [h.rk (Nat.le_refl k)]
  rcases hq : T[k]? with _ | z
  · rw [plc_none hq, if_pos rfl]
  · have hz := XS_lt hm.2.2.1 hm.2.2.2 (h.1.1.2.2.1 z (List.mem_of_getElem? hq))
    rw [plc_some hq, if_neg (nI_m1ne (by omega)), nI_clamp (by omega)]
    rfl
theorem lmax {a t : Int64} : (if t < a then a else t) = if lg_cmp a t ≤ 0 then t else a := by
  by_cases c : t < a
  · rw [if_pos c, if_neg]
    rw [lg_cmp_le, Int64.le_iff_toInt_le]
    rw [Int64.lt_iff_toInt_lt] at c
    omega
  · rw [if_neg c, if_pos]
    rw [lg_cmp_le, Int64.le_iff_toInt_le]
    rw [Int64.lt_iff_toInt_lt] at c
    omega
theorem PQ.est (h : PQ it we gr fi many n0 n1 st k T q) {sl : Int32} (hs : okP sl (priSampled q)) : priEst q sl = mEst we (mThr many we fi (nI k) (nI st)) (mRk many we fi (nI st) sl) := by
  unfold priEst mEst
  rw [h.weight hs, h.thr, lmax]
theorem PQ.h16 (h : PQ it we gr fi many n0 n1 st k T q) : mSam many (nI k) (nI st) ≤ 16 := by
  have := h.2.2.2.2.1
  rw [h.sizeN]
  exact nI_le (a := min k T.length) (b := 16) (by omega) (by decide)
theorem PQ.okp (h : PQ it we gr fi many n0 n1 st k T q) {j : Nat} (hj : j ≤ 16) (hs : ¬ mSam many (nI k) (nI st) ≤ nI j) : okP (nI j) (priSampled q) := by
  have := h.2.2.2.2.1
  rw [h.size]
  rw [h.sizeN] at hs ⊢
  rw [nI_leI (by omega) (by omega)] at hs
  exact ⟨nI_pos (by omega), (nI_ltI (by omega) (by omega)).mpr (by omega)⟩
theorem PQ.hrs (h : PQ it we gr fi many n0 n1 st k T q) : ∀ j : Nat, j ≤ 16 → ¬ mSam many (nI k) (nI st) ≤ nI j → vp_in (mRk many we fi (nI st) (nI j)) 600 := fun _ hj hs => h.vin (h.okp hj hs)
theorem PQ.ltS (h : PQ it we gr fi many n0 n1 st k T q) {a : Nat} (ha : a < 16) (c : ¬ mSam many (nI k) (nI st) ≤ nI a) : a < min k T.length := by
  have := h.2.2.2.2.1
  rw [h.sizeN, nI_leI (by omega) (by omega)] at c
  omega
theorem PQ.wsumL (h : PQ it we gr fi many n0 n1 st k T q) {g : Int32} : ∀ (f1 f2 a : Nat) (x : Int32), a ≤ 16 → min k T.length - a < f1 → 16 - a < f2 → wsL_ q g (priSampled q) f1 x (nI a) = mSwL many we gr fi (nI st) g (mSam many (nI k) (nI st)) f2 a x := by
  intro f1
  induction f1 with
  | zero => intro f2 a x _ h; exact absurd h (Nat.not_lt_zero _)
  | succ f1 ih =>
    intro f2 a x ha h1 h2
    obtain ⟨f3, rfl⟩ : ∃ f3, f2 = f3 + 1 := ⟨f2 - 1, by omega⟩
    unfold wsL_ mSwL
    rw [h.size]
    by_cases c : mSam many (nI k) (nI st) ≤ nI a
    · rw [if_pos c, if_pos c]
    · rw [if_neg c, if_neg c]
      have hs := h.okp ha c
      have hlt : a < 16 := by
        rcases Nat.lt_or_ge a 16 with q1 | q1
        · exact q1
        · have e : a = 16 := by omega
          subst e
          exact absurd h.h16 c
      have hlt2 := h.ltS hlt c
      rw [h.group hs, h.weight hs, nI_1, ← h.size]
      by_cases c2 : gr (mRk many we fi (nI st) (nI a)).toNatClampNeg = g
      · rw [if_pos c2, if_pos c2, ih f3 (a + 1) _ (by omega) (by omega) (by omega), h.size]
      · rw [if_neg c2, if_neg c2, ih f3 (a + 1) _ (by omega) (by omega) (by omega), h.size, Int32.add_zero]
theorem PQ.estL (h : PQ it we gr fi many n0 n1 st k T q) {g : Int32} : ∀ (f1 f2 a : Nat) (x : Int64), a ≤ 16 → min k T.length - a < f1 → 16 - a < f2 → esL q g (priSampled q) f1 x (nI a) = mEsL many we gr fi (nI st) g (mSam many (nI k) (nI st)) (mThr many we fi (nI k) (nI st)) f2 a x := by
  intro f1
  induction f1 with
  | zero => intro f2 a x _ h; exact absurd h (Nat.not_lt_zero _)
  | succ f1 ih =>
    intro f2 a x ha h1 h2
    obtain ⟨f3, rfl⟩ : ∃ f3, f2 = f3 + 1 := ⟨f2 - 1, by omega⟩
    unfold esL mEsL
    rw [h.size]
    by_cases c : mSam many (nI k) (nI st) ≤ nI a
    · rw [if_pos c, if_pos c]
    · rw [if_neg c, if_neg c]
      have hs := h.okp ha c
      have hlt : a < 16 := by
        rcases Nat.lt_or_ge a 16 with q1 | q1
        · exact q1
        · have e : a = 16 := by omega
          subst e
          exact absurd h.h16 c
      have hlt2 := h.ltS hlt c
      rw [h.group hs, h.est hs, nI_1, ← h.size]
      unfold mEst
      by_cases c2 : gr (mRk many we fi (nI st) (nI a)).toNatClampNeg = g
      · rw [if_pos c2]
        by_cases c3 : lg_cmp (we (mRk many we fi (nI st) (nI a)).toNatClampNeg).toInt64 (mThr many we fi (nI k) (nI st)) ≤ 0
        · rw [if_pos c3, if_pos c3, if_pos c2, ih f3 (a + 1) _ (by omega) (by omega) (by omega), h.size]
        · rw [if_neg c3, if_neg c3, if_pos c2, ih f3 (a + 1) _ (by omega) (by omega) (by omega), h.size]
      · rw [if_neg c2, ih f3 (a + 1) _ (by omega) (by omega) (by omega), h.size]
        simp only [if_neg c2, Int64.add_zero]
        exact (ite_self _).symm
theorem PQ.fuel (h : PQ it we gr fi many n0 n1 st k T q) : ((priSampled q).toInt - (0 : Int32).toInt).toNat = min k T.length := by
  have := h.2.2.2.2.1
  rw [h.size, h.sizeN, nI_toInt (by omega), show (0 : Int32).toInt = 0 from rfl]
  omega
theorem PQ.wsum (h : PQ it we gr fi many n0 n1 st k T q) (g : Int32) : priWSum q g = mSwL many we gr fi (nI st) g (mSam many (nI k) (nI st)) (16 - 0 + 1) 0 0 := by
  unfold priWSum
  rw [h.fuel]
  exact h.wsumL (g := g) _ _ 0 0 (by omega) (by omega) (by omega)
theorem PQ.esum (h : PQ it we gr fi many n0 n1 st k T q) (g : Int32) : priEstSum q g = mEsL many we gr fi (nI st) g (mSam many (nI k) (nI st)) (mThr many we fi (nI k) (nI st)) (16 - 0 + 1) 0 0 := by
  unfold priEstSum
  rw [h.fuel]
  exact h.estL (g := g) _ _ 0 0 (by omega) (by omega) (by omega)
end
