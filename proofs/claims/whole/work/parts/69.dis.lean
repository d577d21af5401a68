/-! the reference's distinct items -/
def bI (b : Bool) : Int32 := if b = true then 1 else 0
theorem nar_bI (b : Bool) : vp_nar .boolean (bI b) = bI b := by cases b <;> rfl
theorem bI_0 {b : Bool} : bI b = 0 ↔ ¬ b = true := by
  unfold bI
  cases b
  · simp
  · simp
def NewTo (it : Nat → Int32) (P : Nat → Bool) (a c : Nat) : Bool := P a && decide (∀ b, b < c → ¬ (P b = true ∧ it b = it a))
def New (it : Nat → Int32) (P : Nat → Bool) (a : Nat) : Bool := NewTo it P a a
theorem NewTo_iff {it : Nat → Int32} {P : Nat → Bool} {a c : Nat} : NewTo it P a c = true ↔ P a = true ∧ ∀ b, b < c → ¬ (P b = true ∧ it b = it a) := by
  unfold NewTo
  rw [Bool.and_eq_true, decide_eq_true_iff]
theorem New_iff {it : Nat → Int32} {P : Nat → Bool} {a : Nat} : New it P a = true ↔ P a = true ∧ ∀ b, b < a → ¬ (P b = true ∧ it b = it a) := NewTo_iff
section
variable {many it : Nat → Int32} {n0 n1 st : Nat}
theorem dsI (hm : MC many n0 n1) (hs : st ≤ 2) {a : Nat} (la : a < 600) : ∀ (fu b : Nat) (v : Nat → Int32), b ≤ a → a - b < fu → v a = bI (NewTo it (XS n0 n1 st) a b) →
    (mDsI many it (nI st) a fu b v) a = bI (New it (XS n0 n1 st) a) ∧ ∀ j, j ≠ a → (mDsI many it (nI st) a fu b v) j = v j := by
  intro fu
  induction fu with
  | zero => intro b v _ h; exact absurd h (Nat.not_lt_zero _)
  | succ fu ih =>
    intro b v hb hf hv
    unfold mDsI
    rw [nI_clamp (n := a) (by omega), nI_clamp (n := b) (by omega)]
    by_cases c : a ≤ b
    · rw [if_pos (nI_le c (by omega))]
      have e : b = a := by omega
      subst e
      exact ⟨hv, fun j _ => rfl⟩
    · rw [if_neg (fun hh => c ((nI_leI (by omega) (by omega)).mp hh))]
      by_cases c0 : v a = 0
      · rw [if_pos c0]
        refine ⟨?_, fun j _ => rfl⟩
        rw [hv, bI_0] at c0
        rw [hv, bI_0.mpr c0, bI_0.mpr]
        intro hh
        rw [New_iff] at hh
        exact c0 (NewTo_iff.mpr ⟨hh.1, fun x hx => hh.2 x (by omega)⟩)
      · rw [if_neg c0]
        have hN : NewTo it (XS n0 n1 st) a b = true := by
          rcases Classical.em (NewTo it (XS n0 n1 st) a b = true) with q | q
          · exact q
          · exact absurd (by rw [hv]; exact bI_0.mpr q) c0
        rw [NewTo_iff] at hN
        have key : ∀ (B : Bool), NewTo it (XS n0 n1 st) a (b + 1) = B → (mDsI many it (nI st) a fu (b + 1) (upd v a (vp_nar .boolean (bI B)))) a = bI (New it (XS n0 n1 st) a) ∧ ∀ j, j ≠ a → (mDsI many it (nI st) a fu (b + 1) (upd v a (vp_nar .boolean (bI B)))) j = v j := by
          intro B hB
          have := ih (b + 1) (upd v a (vp_nar .boolean (bI B))) (by omega) (by omega) (by rw [pk_us, nar_bI, hB])
          exact ⟨this.1, fun j hj => by rw [this.2 j hj, pk_un hj]⟩
        by_cases c1 : XS n0 n1 st b = true
        · rw [if_neg (fun h => (isof0 hm hs (by omega)).mp h c1)]
          by_cases c2 : it b = it a
          · rw [if_pos c2]
            refine key false ?_
            cases hq : NewTo it (XS n0 n1 st) a (b + 1)
            · rfl
            · exact absurd ⟨c1, c2⟩ ((NewTo_iff.mp hq).2 b (by omega))
          · rw [if_neg c2]
            refine key true (NewTo_iff.mpr ⟨hN.1, fun x hx => ?_⟩)
            rcases Nat.lt_or_ge x b with q | q
            · exact hN.2 x q
            · have e : x = b := by omega
              subst e
              exact fun hh => c2 hh.2
        · rw [if_pos ((isof0 hm hs (by omega)).mpr c1)]
          refine key true (NewTo_iff.mpr ⟨hN.1, fun x hx => ?_⟩)
          rcases Nat.lt_or_ge x b with q | q
          · exact hN.2 x q
          · have e : x = b := by omega
            subst e
            exact fun hh => c1 hh.1
theorem dsL (hm : MC many n0 n1) (hs : st ≤ 2) : ∀ (fu a : Nat) (w : Nat → Int32), a ≤ 600 → 600 - a < fu → (∀ j, j < a → w j = bI (New it (XS n0 n1 st) j)) →
    (mDsL many it (nI st) fu a (nI (cnt (New it (XS n0 n1 st)) a)) w).1 = nI (cnt (New it (XS n0 n1 st)) 600) ∧ ∀ j, j < 600 → (mDsL many it (nI st) fu a (nI (cnt (New it (XS n0 n1 st)) a)) w).2 j = bI (New it (XS n0 n1 st) j) := by
  intro fu
  induction fu with
  | zero => intro a w _ h; exact absurd h (Nat.not_lt_zero _)
  | succ fu ih =>
    intro a w ha hf hw
    unfold mDsL
    by_cases c : a = 600
    · subst c
      rw [if_pos (show (600 : Int32) ≤ nI 600 from Int32.le_refl _)]
      exact ⟨rfl, hw⟩
    · rw [if_neg (fun h => c ((lt_600 ha).mp h)), nI_clamp (by omega)]
      have h1 := dsI (it := it) hm hs (a := a) (by omega) (a - 0 + 1) 0 (upd w a (vp_nar .boolean (mIsOf many (nI st) (nI a)))) (Nat.zero_le _) (by omega) (by
        rw [pk_us, isof hm hs (by omega)]
        show vp_nar .boolean (bI (XS n0 n1 st a)) = _
        rw [nar_bI]
        congr 1
        cases hq : XS n0 n1 st a
        · cases hr : NewTo it (XS n0 n1 st) a 0
          · rfl
          · have := (NewTo_iff.mp hr).1
            rw [hq] at this
            exact this
        · exact (NewTo_iff.mpr ⟨hq, fun x hx => absurd hx (Nat.not_lt_zero _)⟩).symm)
      have h2 : ∀ j, j < a + 1 → (mDsI many it (nI st) a (a - 0 + 1) 0 (upd w a (vp_nar .boolean (mIsOf many (nI st) (nI a))))) j = bI (New it (XS n0 n1 st) j) := by
        intro j hj
        by_cases cj : j = a
        · subst cj
          exact h1.1
        · rw [h1.2 j cj, pk_un cj]
          exact hw j (by omega)
      have hc := cnt_s (New it (XS n0 n1 st)) a
      have hih := ih (a + 1) _ (by omega) (by omega) h2
      rw [h1.1]
      by_cases cn : New it (XS n0 n1 st) a = true
      · rw [if_neg (fun h => bI_0.mp h cn), nI_1]
        rw [if_pos cn] at hc
        rw [hc] at hih
        exact hih
      · rw [if_pos (bI_0.mpr cn), Int32.add_zero]
        rw [if_neg cn] at hc
        rw [hc] at hih
        exact hih
theorem ds_spec (hm : MC many n0 n1) (hs : st ≤ 2) (w : Nat → Int32) : (mDs many it (nI st) w).1 = nI (cnt (New it (XS n0 n1 st)) 600) ∧ ∀ j, j < 600 → (mDs many it (nI st) w).2 j = bI (New it (XS n0 n1 st) j) := by
  have := dsL (it := it) hm hs (600 - 0 + 1) 0 w (by omega) (by omega) (fun j hj => absurd hj (Nat.not_lt_zero _))
  rw [cnt_0, nI_0] at this
  exact this
theorem dn_spec (hm : MC many n0 n1) (hs : st ≤ 2) (w : Nat → Int32) {k : Nat} (hk : k ≤ 16) : mDn many it (nI k) (nI st) w = nI (min k (cnt (New it (XS n0 n1 st)) 600)) := by
  have hl := cnt_le (New it (XS n0 n1 st)) 600
  unfold mDn
  rw [(ds_spec (it := it) hm hs w).1]
  by_cases c : k ≤ cnt (New it (XS n0 n1 st)) 600
  · rw [if_pos (nI_le c (by omega)), Nat.min_eq_left c]
  · rw [if_neg (fun hh => c ((nI_leI (by omega) (by omega)).mp hh)), Nat.min_eq_right (by omega)]
end
/-! by hashes -/
def Ri (it : Nat → Int32) (a b : Nat) : Bool := decide (hv (vl it a) < hv (vl it b) ∨ (hv (vl it a) = hv (vl it b) ∧ a < b))
theorem Ri_iff {it : Nat → Int32} {a b : Nat} : Ri it a b = true ↔ hv (vl it a) < hv (vl it b) ∨ (hv (vl it a) = hv (vl it b) ∧ a < b) := by
  unfold Ri
  exact decide_eq_true_iff
theorem Ri_so (it : Nat → Int32) : SO (Ri it) := by
  refine ⟨fun x y z h1 h2 => ?_, fun x h => ?_, fun x y h => ?_⟩
  · rw [Ri_iff] at h1 h2 ⊢
    omega
  · rw [Ri_iff] at h
    omega
  · rw [Ri_iff, Ri_iff]
    omega
/-- items as the document bounds them -/
def VI (it : Nat → Int32) (P : Nat → Bool) : Prop := ∀ a, P a = true → a < 600 ∧ ∃ v, v ≤ 1000000 ∧ it a = nI v
theorem VI.val {it : Nat → Int32} {P : Nat → Bool} (h : VI it P) {a : Nat} (ha : P a = true) : vl it a ≤ 1000000 ∧ it a = nI (vl it a) := by
  obtain ⟨-, v, hv, e⟩ := h a ha
  have : vl it a = v := by
    show (it a).toNatClampNeg = v
    rw [e, nI_clamp (by omega)]
  rw [this]
  exact ⟨hv, e⟩
theorem New_inj {it : Nat → Int32} {P : Nat → Bool} {a b : Nat} (ha : New it P a = true) (hb : New it P b = true) (h : it a = it b) : a = b := by
  rw [New_iff] at ha hb
  rcases Nat.lt_trichotomy a b with q | q | q
  · exact absurd ⟨ha.1, h⟩ (hb.2 a q)
  · exact q
  · exact absurd ⟨hb.1, h.symm⟩ (ha.2 b q)
theorem New_ex {it : Nat → Int32} {P : Nat → Bool} {v : Nat} (h : Xv it P v) : ∃ a, (a < 600 ∧ New it P a = true) ∧ vl it a = v := by
  obtain ⟨a, ⟨h1, h2, h3⟩, h4⟩ := pk_least (fun a => a < 600 ∧ P a = true ∧ vl it a = v) h
  refine ⟨a, ⟨h1, New_iff.mpr ⟨h2, fun b hb hh => h4 b hb ⟨by omega, hh.1, ?_⟩⟩⟩, h3⟩
  rw [← h3]
  show (it b).toNatClampNeg = (it a).toNatClampNeg
  rw [hh.2]
