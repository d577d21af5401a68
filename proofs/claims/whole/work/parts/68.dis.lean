/-! both streams' distinct items in one -/
theorem RelDis.start {k : Nat} {X : Nat → Prop} {C : Nat → Nat} (hX : ∀ x, ¬ X x) (z : DisT) : RelDis k X C [] (disStart (nI k) z) :=
  ⟨Top.none hX, rfl, nI_0.symm, fun p x h => by simp at h⟩
/-- the count that has come from the first i of a list -/
def cT (D : Nat → Nat) (S : List Nat) (v : Nat) : Nat := if v ∈ S then D v else 0
theorem cT_in {D : Nat → Nat} {S : List Nat} {v : Nat} (h : v ∈ S) : cT D S v = D v := if_pos h
theorem cT_out {D : Nat → Nat} {S : List Nat} {v : Nat} (h : v ∉ S) : cT D S v = 0 := if_neg h
theorem RelDis.allL {k : Nat} {X Y : Nat → Prop} {C D : Nat → Nat} {T : List Nat} {q : DisT} (hq : RelDis k Y D T q) (hk : k ≤ 16) (hX : ∀ x, X x → x ≤ 1000000) (hY : ∀ x, Y x → x ≤ 1000000) (hC : ∀ v, ¬ X v → C v = 0) :
    ∀ (fu i : Nat) (Z : List Nat) (r : DisT), i ≤ T.length → T.length - i < fu → RelDis k (fun x => X x ∨ x ∈ T.take i) (fun v => C v + cT D (T.take i) v) Z r → ∃ Z', RelDis k (fun x => X x ∨ x ∈ T) (fun v => C v + cT D T v) Z' (daL q (nI T.length) fu (nI i) r) := by
  have hR := Rh_so
  have hlm := hq.1.2.1
  intro fu
  induction fu with
  | zero => intro i Z r _ h; exact absurd h (Nat.not_lt_zero _)
  | succ fu ih =>
    intro i Z r hi hf hr
    unfold daL
    by_cases c : T.length ≤ i
    · rw [if_pos (nI_le c (by omega))]
      rw [List.take_of_length_le c] at hr
      exact ⟨Z, hr⟩
    · rw [if_neg (fun hh => c ((nI_leI (by omega) (by omega)).mp hh))]
      obtain ⟨y, hy⟩ : ∃ y, T[i]? = some y := ⟨_, List.getElem?_eq_getElem (by omega)⟩
      have hyT := List.mem_of_getElem? hy
      have hyY := hq.1.2.2.1 y hyT
      obtain ⟨e1, e2⟩ := hq.2.2.2 i y hy
      rw [at_nI (by omega) (by decide), at_nI (by omega) (by decide), e1, e2]
      have hX2 : ∀ x, (X x ∨ x ∈ T.take i) → x ≤ 1000000 := fun x h => h.elim (hX x) (fun q => hY x (hq.1.2.2.1 x (List.mem_of_mem_take q)))
      have hni : y ∉ T.take i := by
        intro h
        obtain ⟨j, h1, h2⟩ := mem_take_get h
        exact hR.2.1 y (pw_get hq.1.1 h1 h2 hy)
      obtain ⟨Z2, hZ2⟩ := hr.add (c := D y) hk hX2 (hY y hyY) (fun hn => by
        show C y + cT D (T.take i) y = 0
        rw [cT_out hni, hC y (fun h => hn (Or.inl h))])
      rw [nI_1]
      have hmem : ∀ x, x ∈ T.take (i + 1) ↔ x ∈ T.take i ∨ x = y := by
        intro x
        rw [mem_take_iff, mem_take_iff]
        constructor
        · rintro ⟨j, h1, h2⟩
          rcases Nat.lt_or_ge j i with q | q
          · exact Or.inl ⟨j, q, h2⟩
          · have : j = i := by omega
            subst this
            exact Or.inr (Option.some.inj (h2.symm.trans hy))
        · rintro (⟨j, h1, h2⟩ | rfl)
          · exact ⟨j, by omega, h2⟩
          · exact ⟨i, by omega, hy⟩
      refine ih (i + 1) Z2 _ (by omega) (by omega) (hZ2.mono (hZ2.1.congr (fun x => ?_)) (fun v _ => ?_))
      · rw [hmem x]
        exact or_assoc
      · show C v + cT D (T.take i) v + (if v = y then D y else 0) = C v + cT D (T.take (i + 1)) v
        by_cases cv : v = y
        · subst cv
          rw [cT_out hni, if_pos rfl, cT_in ((hmem v).mpr (Or.inr rfl))]
          rfl
        · rw [if_neg cv, Nat.add_zero]
          by_cases cm : v ∈ T.take i
          · rw [cT_in cm, cT_in ((hmem v).mpr (Or.inl cm))]
          · rw [cT_out cm, cT_out (fun h => ((hmem v).mp h).elim cm cv)]
theorem RelDis.all {k : Nat} {X Y : Nat → Prop} {C D : Nat → Nat} {T Z : List Nat} {q r : DisT} (hr : RelDis k X C Z r) (hq : RelDis k Y D T q) (hk : k ≤ 16) (hX : ∀ x, X x → x ≤ 1000000) (hY : ∀ x, Y x → x ≤ 1000000) (hC : ∀ v, ¬ X v → C v = 0) :
    ∃ Z', RelDis k (fun x => X x ∨ x ∈ T) (fun v => C v + cT D T v) Z' (disAll r q) := by
  have hlm := hq.1.2.1
  unfold disAll
  rw [sld_eq, hq.2.2.1, nI_toInt (by omega), show (0 : Int32).toInt = 0 from rfl]
  exact hq.allL hk hX hY hC _ 0 Z r (Nat.zero_le _) (by omega) (hr.mono (hr.1.congr (fun x => by simp)) (fun v _ => by rw [cT_out (by simp)]; rfl))
theorem RelDis.merge {k : Nat} {X0 X1 : Nat → Prop} {C0 C1 : Nat → Nat} {T0 T1 : List Nat} {q0 q1 : DisT} (h0 : RelDis k X0 C0 T0 q0) (h1 : RelDis k X1 C1 T1 q1) (hk : k ≤ 16) (hX0 : ∀ x, X0 x → x ≤ 1000000) (hX1 : ∀ x, X1 x → x ≤ 1000000) (hC0 : ∀ v, ¬ X0 v → C0 v = 0) (hC1 : ∀ v, ¬ X1 v → C1 v = 0) (z : DisT) :
    ∃ Z, RelDis k (fun x => X0 x ∨ X1 x) (fun v => C0 v + C1 v) Z (disAll (disAll (disStart (nI k) z) q0) q1) := by
  have hR := Rh_so
  obtain ⟨Z1, hZ1⟩ := (RelDis.start (k := k) (X := fun _ => False) (C := fun _ => 0) (fun _ h => h) z).all h0 hk (fun _ h => h.elim) hX0 (fun _ _ => rfl)
  obtain ⟨Z2, hZ2⟩ := hZ1.all h1 hk (fun x h => h.elim (fun h => h.elim) (fun h => hX0 x (h0.1.2.2.1 x h))) hX1 (fun v hv => by
    show 0 + cT C0 T0 v = 0
    rw [cT_out (fun h => hv (Or.inr h))])
  have hT : Top Rh k (fun x => x ∈ T0 ∨ x ∈ T1) Z2 := hZ2.1.congr (fun x => by simp)
  refine ⟨Z2, hZ2.mono (Top.union hR h0.1 h1.1 hT) (fun v hv => ?_)⟩
  show 0 + cT C0 T0 v + cT C1 T1 v = C0 v + C1 v
  have a0 : cT C0 T0 v = C0 v := by
    by_cases c : v ∈ T0
    · exact cT_in c
    · rw [cT_out c, hC0 v (fun hx => c (h0.1.mem hR hT (fun t ht => Or.inl ht) hv hx))]
  have a1 : cT C1 T1 v = C1 v := by
    by_cases c : v ∈ T1
    · exact cT_in c
    · rw [cT_out c, hC1 v (fun hx => c (h1.1.mem hR hT (fun t ht => Or.inr ht) hv hx))]
  rw [a0, a1, Nat.zero_add]
/-! the items of a set of offers, and how often each was offered -/
def vl (it : Nat → Int32) (a : Nat) : Nat := (it a).toNatClampNeg
def Xv (it : Nat → Int32) (P : Nat → Bool) (v : Nat) : Prop := ∃ a, a < 600 ∧ P a = true ∧ vl it a = v
def eqv (it : Nat → Int32) (v a : Nat) : Bool := decide (vl it a = v)
theorem eqv_iff {it : Nat → Int32} {v a : Nat} : eqv it v a = true ↔ vl it a = v := decide_eq_true_iff
def Cv (it : Nat → Int32) (P : Nat → Bool) (v : Nat) : Nat := cnt (fun a => P a && eqv it v a) 600
theorem cnt_zero {b : Nat → Bool} {N : Nat} (h : ∀ x, x < N → ¬ b x = true) : cnt b N = 0 := by
  have := cnt_up (b := b) (N := N) (S := []) (fun x hx hb => absurd hb (h x hx))
  simpa using this
theorem Cv_zero {it : Nat → Int32} {P : Nat → Bool} {v : Nat} (h : ¬ Xv it P v) : Cv it P v = 0 := by
  refine cnt_zero (fun x hx hb => h ⟨x, hx, ?_⟩)
  rw [Bool.and_eq_true, eqv_iff] at hb
  exact hb
theorem cnt_add {b b0 b1 : Nat → Bool} : ∀ {N : Nat}, (∀ x, x < N → (b x = true ↔ b0 x = true ∨ b1 x = true)) → (∀ x, x < N → ¬ (b0 x = true ∧ b1 x = true)) → cnt b N = cnt b0 N + cnt b1 N := by
  intro N
  induction N with
  | zero => intro _ _; rfl
  | succ N ih =>
    intro h1 h2
    rw [cnt_s, cnt_s, cnt_s, ih (fun x hx => h1 x (by omega)) (fun x hx => h2 x (by omega))]
    have a := h1 N (by omega)
    have c := h2 N (by omega)
    by_cases c0 : b0 N = true
    · have c1 : ¬ b1 N = true := fun h => c ⟨c0, h⟩
      rw [if_pos c0, if_neg c1, if_pos (a.mpr (Or.inl c0))]
      omega
    · by_cases c1 : b1 N = true
      · rw [if_neg c0, if_pos c1, if_pos (a.mpr (Or.inr c1))]
        omega
      · rw [if_neg c0, if_neg c1, if_neg (fun h => (a.mp h).elim c0 c1)]
        omega
theorem Xv_2 {it : Nat → Int32} {n0 n1 v : Nat} : Xv it (XS n0 n1 2) v ↔ Xv it (XS n0 n1 0) v ∨ Xv it (XS n0 n1 1) v := by
  unfold Xv
  simp only [XS_iff]
  constructor
  · rintro ⟨a, h1, h2, h3⟩
    rcases h2 with h2 | h2
    · exact Or.inl ⟨a, h1, by omega, h3⟩
    · exact Or.inr ⟨a, h1, by omega, h3⟩
  · rintro (⟨a, h1, h2, h3⟩ | ⟨a, h1, h2, h3⟩)
    · exact ⟨a, h1, by omega, h3⟩
    · exact ⟨a, h1, by omega, h3⟩
theorem Cv_2 {it : Nat → Int32} {n0 n1 v : Nat} (h0 : n0 ≤ 300) : Cv it (XS n0 n1 2) v = Cv it (XS n0 n1 0) v + Cv it (XS n0 n1 1) v := by
  refine cnt_add (fun x _ => ?_) (fun x _ => ?_)
  · rw [Bool.and_eq_true, Bool.and_eq_true, Bool.and_eq_true, XS_iff, XS_iff, XS_iff]
    constructor
    · rintro ⟨h1 | h1, h2⟩
      · exact Or.inl ⟨by omega, h2⟩
      · exact Or.inr ⟨by omega, h2⟩
    · rintro (⟨h1, h2⟩ | ⟨h1, h2⟩)
      · exact ⟨by omega, h2⟩
      · exact ⟨by omega, h2⟩
  · rw [Bool.and_eq_true, Bool.and_eq_true, XS_iff, XS_iff]
    omega
