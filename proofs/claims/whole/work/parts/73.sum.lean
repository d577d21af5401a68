/-! sums and counts of groups -/
def sumI (f : Nat → Int32) : Nat → Int32
  | 0 => 0
  | n + 1 => sumI f n + f n
theorem sumI_eq {f g : Nat → Int32} : ∀ {N : Nat}, (∀ a, a < N → f a = g a) → sumI f N = sumI g N := by
  intro N
  induction N with
  | zero => intro _; rfl
  | succ N ih =>
    intro h
    show sumI f N + f N = sumI g N + g N
    rw [ih (fun a ha => h a (by omega)), h N (by omega)]
theorem sumI_add {f f0 f1 : Nat → Int32} : ∀ {N : Nat}, (∀ a, a < N → f a = f0 a + f1 a) → sumI f N = sumI f0 N + sumI f1 N := by
  intro N
  induction N with
  | zero => intro _; exact (Int32.add_zero 0).symm
  | succ N ih =>
    intro h
    show sumI f N + f N = sumI f0 N + f0 N + (sumI f1 N + f1 N)
    rw [ih (fun a ha => h a (by omega)), h N (by omega)]
    ac_rfl
theorem sumI_ins {f f' : Nat → Int32} {y : Nat} : ∀ {N : Nat}, y < N → (∀ a, a < N → a ≠ y → f' a = f a) → f y = 0 → sumI f' N = sumI f N + f' y := by
  intro N
  induction N with
  | zero => intro h; exact absurd h (Nat.not_lt_zero _)
  | succ N ih =>
    intro hy h h0
    show sumI f' N + f' N = sumI f N + f N + f' y
    by_cases c : y = N
    · subst c
      rw [sumI_eq (fun a ha => h a (by omega) (by omega)), h0, Int32.add_zero]
    · rw [ih (by omega) (fun a ha hne => h a (by omega) hne) h0, h N (by omega) (fun e => c e.symm)]
      ac_rfl
def GW (we gr : Nat → Int32) (P : Nat → Bool) (g : Int32) (a : Nat) : Int32 := if P a = true then (if gr a = g then we a else 0) else 0
theorem ewL {many we gr : Nat → Int32} {n0 n1 st : Nat} {g : Int32} (hm : MC many n0 n1) (hs : st ≤ 2) : ∀ (fu a : Nat), a ≤ 600 → 600 - a < fu → mEwL many we gr (nI st) g fu a (sumI (GW we gr (XS n0 n1 st) g) a) = sumI (GW we gr (XS n0 n1 st) g) 600 := by
  intro fu
  induction fu with
  | zero => intro a _ h; exact absurd h (Nat.not_lt_zero _)
  | succ fu ih =>
    intro a ha hf
    unfold mEwL
    by_cases c : a = 600
    · rw [if_pos ((lt_600 ha).mpr c), c]
    · rw [if_neg (fun h => c ((lt_600 ha).mp h)), nI_clamp (n := a) (by omega)]
      have hih := ih (a + 1) (by omega) (by omega)
      have e : sumI (GW we gr (XS n0 n1 st) g) (a + 1) = sumI (GW we gr (XS n0 n1 st) g) a + GW we gr (XS n0 n1 st) g a := rfl
      rw [e] at hih
      unfold GW at hih ⊢
      by_cases c1 : XS n0 n1 st a = true
      · rw [if_neg (fun h => (isof0 hm hs (by omega)).mp h c1)]
        rw [if_pos c1] at hih
        by_cases c2 : gr a = g
        · rw [if_pos c2]
          rw [if_pos c2] at hih
          exact hih
        · rw [if_neg c2]
          rw [if_neg c2] at hih
          exact hih
      · rw [if_pos ((isof0 hm hs (by omega)).mpr c1)]
        rw [if_neg c1] at hih
        exact hih
def GC (gr : Nat → Int32) (P : Nat → Bool) (g : Int32) (a : Nat) : Bool := P a && decide (gr a = g)
theorem GC_iff {gr : Nat → Int32} {P : Nat → Bool} {g : Int32} {a : Nat} : GC gr P g a = true ↔ P a = true ∧ gr a = g := by
  unfold GC
  rw [Bool.and_eq_true, decide_eq_true_iff]
theorem goL {many gr : Nat → Int32} {n0 n1 st : Nat} {g : Int32} (hm : MC many n0 n1) (hs : st ≤ 2) : ∀ (fu a : Nat), a ≤ 600 → 600 - a < fu → mGoL many gr (nI st) g fu a (nI (cnt (GC gr (XS n0 n1 st) g) a)) = nI (cnt (GC gr (XS n0 n1 st) g) 600) := by
  intro fu
  induction fu with
  | zero => intro a _ h; exact absurd h (Nat.not_lt_zero _)
  | succ fu ih =>
    intro a ha hf
    unfold mGoL
    by_cases c : a = 600
    · rw [if_pos ((lt_600 ha).mpr c), c]
    · rw [if_neg (fun h => c ((lt_600 ha).mp h)), nI_clamp (n := a) (by omega)]
      have hih := ih (a + 1) (by omega) (by omega)
      have hs1 := cnt_s (GC gr (XS n0 n1 st) g) a
      by_cases c1 : XS n0 n1 st a = true
      · rw [if_neg (fun h => (isof0 hm hs (by omega)).mp h c1)]
        by_cases c2 : gr a = g
        · rw [if_pos c2, nI_1]
          rw [if_pos (GC_iff.mpr ⟨c1, c2⟩)] at hs1
          rw [← hs1]
          exact hih
        · rw [if_neg c2, Int32.add_zero]
          rw [if_neg (fun h => c2 (GC_iff.mp h).2)] at hs1
          rw [show cnt (GC gr (XS n0 n1 st) g) a = cnt (GC gr (XS n0 n1 st) g) (a + 1) from hs1.symm]
          exact hih
      · rw [if_pos ((isof0 hm hs (by omega)).mpr c1), Int32.add_zero]
        rw [if_neg (fun h => c1 (GC_iff.mp h).1)] at hs1
        rw [show cnt (GC gr (XS n0 n1 st) g) a = cnt (GC gr (XS n0 n1 st) g) (a + 1) from hs1.symm]
        exact hih
/-! a stream's own places -/
def inB (base n a : Nat) : Bool := decide (base ≤ a ∧ a < base + n)
theorem inB_iff {base n a : Nat} : inB base n a = true ↔ base ≤ a ∧ a < base + n := by
  unfold inB
  exact decide_eq_true_iff
theorem bool_ext {b b' : Bool} (h : b = true ↔ b' = true) : b = b' := by
  cases b <;> cases b' <;> simp_all
theorem XS_0 (n0 n1 : Nat) : XS n0 n1 0 = inB 0 n0 := by
  funext a
  refine bool_ext ?_
  rw [XS_iff, inB_iff]
  omega
theorem XS_1 (n0 n1 : Nat) : XS n0 n1 1 = inB 300 n1 := by
  funext a
  refine bool_ext ?_
  rw [XS_iff, inB_iff]
  omega
theorem inB_s {base n a : Nat} : inB base (n + 1) a = true ↔ inB base n a = true ∨ a = base + n := by
  rw [inB_iff, inB_iff]
  omega
theorem cnt_one {y N : Nat} {b : Nat → Bool} (hy : y < N) (h : ∀ a, a < N → (b a = true ↔ a = y)) : cnt b N = 1 := by
  rw [cnt_of (S := [y]) (by simp)]
  · rfl
  · intro x
    rw [List.mem_singleton]
    constructor
    · rintro rfl
      exact ⟨hy, (h x hy).mpr rfl⟩
    · rintro ⟨h1, h2⟩
      exact (h x h1).mp h2
theorem rsC_cnt {gr : Nat → Int32} {g : Int32} {base : Nat} (hg : ¬ g = -1) : ∀ {n : Nat}, base + n ≤ 600 → rsC (MG gr g) base n = cnt (GC gr (inB base n) g) 600 := by
  intro n
  induction n with
  | zero =>
    intro _
    refine (cnt_zero (fun x hx hb => ?_)).symm
    have := inB_iff.mp (GC_iff.mp hb).1
    omega
  | succ n ih =>
    intro hn
    show rsC (MG gr g) base n + (if MG gr g (base + n) = true then 1 else 0) = _
    rw [ih (by omega)]
    by_cases c : gr (base + n) = g
    · rw [if_pos (MG_iff.mpr (Or.inr c))]
      rw [cnt_add (b := GC gr (inB base (n + 1)) g) (b0 := GC gr (inB base n) g) (b1 := fun a => decide (a = base + n))]
      · rw [cnt_one (y := base + n) (b := fun a => decide (a = base + n)) (by omega) (fun a _ => decide_eq_true_iff)]
      · intro x _
        rw [GC_iff, GC_iff, inB_s, decide_eq_true_iff]
        constructor
        · rintro ⟨h1 | h1, h2⟩
          · exact Or.inl ⟨h1, h2⟩
          · exact Or.inr h1
        · rintro (⟨h1, h2⟩ | rfl)
          · exact ⟨Or.inl h1, h2⟩
          · exact ⟨Or.inr rfl, c⟩
      · intro x _
        rw [GC_iff, inB_iff, decide_eq_true_iff]
        omega
    · rw [if_neg (fun h => (MG_iff.mp h).elim hg c), Nat.add_zero]
      refine cnt_eq (fun x _ => bool_ext ?_)
      rw [GC_iff, GC_iff, inB_s]
      constructor
      · rintro ⟨h1, h2⟩
        exact ⟨Or.inl h1, h2⟩
      · rintro ⟨h1 | rfl, h2⟩
        · exact ⟨h1, h2⟩
        · exact absurd h2 c
/-! groups -/
def RelGrp (fi it we gr : Nat → Int32) (base k n : Nat) (g : Int32) (t : GrpT) : Prop :=
  t.1 = sumI (GW we gr (inB base n) g) 600 ∧ RelRes fi it (MG gr g) base k n t.2
theorem sumI_zero {f : Nat → Int32} : ∀ {N : Nat}, (∀ a, a < N → f a = 0) → sumI f N = 0 := by
  intro N
  induction N with
  | zero => intro _; rfl
  | succ N ih =>
    intro h
    show sumI f N + f N = 0
    rw [ih (fun a ha => h a (by omega)), h N (by omega)]
    rfl
theorem RelGrp.start {fi it we gr : Nat → Int32} {base k : Nat} {g : Int32} (t : GrpT) : RelGrp fi it we gr base k 0 g (grpStart (nI k) t) := by
  refine ⟨(sumI_zero (fun a _ => ?_)).symm, RelRes.start _⟩
  unfold GW
  rw [if_neg]
  rw [inB_iff]
  omega
theorem RelGrp.give {fi it we gr : Nat → Int32} {base k n : Nat} {g : Int32} {t : GrpT} (h : RelGrp fi it we gr base k n g t) (hk : k ≤ 16) (hn : n < 300) (hbase : base % 300 = 0) (hb6 : base + n < 600) (hg : gr (base + n) = g) (hV : ∃ b, b < 2147483648 ∧ fi (base + n) = nI b) :
    RelGrp fi it we gr base k (n + 1) g (grpGive t (it (base + n)) (we (base + n)) (nI (n + 1)) (fi (base + n))) := by
  refine ⟨?_, h.2.give hk hn hbase (MG_iff.mpr (Or.inr hg)) hV⟩
  show t.1 + we (base + n) = _
  rw [sumI_ins (f := GW we gr (inB base n) g) (f' := GW we gr (inB base (n + 1)) g) (y := base + n) hb6, h.1]
  · congr 1
    unfold GW
    rw [if_pos (inB_s.mpr (Or.inr rfl)), if_pos hg]
  · intro a _ hne
    unfold GW
    by_cases c : inB base n a = true
    · rw [if_pos c, if_pos (inB_s.mpr (Or.inl c))]
    · rw [if_neg c, if_neg (fun hh => (inB_s.mp hh).elim c hne)]
  · unfold GW
    rw [if_neg]
    rw [inB_iff]
    omega
theorem RelGrp.skip {fi it we gr : Nat → Int32} {base k n : Nat} {g : Int32} {t : GrpT} (h : RelGrp fi it we gr base k n g t) (hg1 : ¬ g = -1) (hg : ¬ gr (base + n) = g) : RelGrp fi it we gr base k (n + 1) g t := by
  refine ⟨?_, h.2.skip (fun hh => (MG_iff.mp hh).elim hg1 hg)⟩
  rw [h.1]
  refine sumI_eq (fun a _ => ?_)
  unfold GW
  by_cases c : inB base n a = true
  · rw [if_pos c, if_pos (inB_s.mpr (Or.inl c))]
  · rw [if_neg c]
    by_cases c2 : a = base + n
    · subst c2
      rw [if_pos (inB_s.mpr (Or.inr rfl)), if_neg hg]
    · rw [if_neg (fun hh => (inB_s.mp hh).elim c c2)]
theorem GW_2 {we gr : Nat → Int32} {g : Int32} {n0 n1 : Nat} (h0 : n0 ≤ 300) : sumI (GW we gr (XS n0 n1 2) g) 600 = sumI (GW we gr (XS n0 n1 0) g) 600 + sumI (GW we gr (XS n0 n1 1) g) 600 := by
  refine sumI_add (fun a _ => ?_)
  unfold GW
  have i2 : XS n0 n1 2 a = true ↔ _ := XS_iff
  have i0 : XS n0 n1 0 a = true ↔ _ := XS_iff
  have i1 : XS n0 n1 1 a = true ↔ _ := XS_iff
  by_cases c0 : XS n0 n1 0 a = true
  · have a0 := i0.mp c0
    have c1 : ¬ XS n0 n1 1 a = true := fun h => by have := i1.mp h; omega
    rw [if_pos c0, if_pos (i2.mpr (by omega)), if_neg c1, Int32.add_zero]
  · rw [if_neg c0, Int32.zero_add]
    by_cases c1 : XS n0 n1 1 a = true
    · have a1 := i1.mp c1
      rw [if_pos c1, if_pos (i2.mpr (by omega))]
    · rw [if_neg c1, if_neg]
      intro h
      have := i2.mp h
      rcases this with h | h
      · exact c0 (i0.mpr (by omega))
      · exact c1 (i1.mpr (by omega))
