/-! mathematics: the first m of a set, in a strict order -/
def SO (R : Nat → Nat → Bool) : Prop := (∀ x y z, R x y = true → R y z = true → R x z = true) ∧ (∀ x, ¬ R x x = true) ∧ ∀ x y, x ≠ y → R x y = true ∨ R y x = true
def Top (R : Nat → Nat → Bool) (m : Nat) (X : Nat → Prop) (T : List Nat) : Prop :=
  T.Pairwise (fun a b => R a b = true) ∧ T.length ≤ m ∧ (∀ t ∈ T, X t) ∧ ∀ x, X x → x ∉ T → T.length = m ∧ ∀ t ∈ T, R t x = true
theorem Top.nodup {R : Nat → Nat → Bool} {m : Nat} {X : Nat → Prop} {T : List Nat} (hR : SO R) (h : Top R m X T) : T.Nodup := by
  refine List.Pairwise.imp ?_ h.1
  intro a b hab e
  subst e
  exact hR.2.1 a hab
theorem Top.congr {R : Nat → Nat → Bool} {m : Nat} {X Y : Nat → Prop} {T : List Nat} (he : ∀ x, X x ↔ Y x) (h : Top R m X T) : Top R m Y T :=
  ⟨h.1, h.2.1, fun t ht => (he t).mp (h.2.2.1 t ht), fun x hx hn => h.2.2.2 x ((he x).mpr hx) hn⟩
theorem Top.none {R : Nat → Nat → Bool} {m : Nat} {X : Nat → Prop} (h : ∀ x, ¬ X x) : Top R m X [] :=
  ⟨List.Pairwise.nil, Nat.zero_le _, fun _ ht => absurd ht List.not_mem_nil, fun x hx => absurd hx (h x)⟩
theorem Top.add {R : Nat → Nat → Bool} {m : Nat} {X : Nat → Prop} {T : List Nat} {y p : Nat} (hR : SO R) (h : Top R m X T) (hy : ¬ X y)
    (h1 : ∀ t ∈ T.take p, R t y = true) (h2 : ∀ t ∈ T.drop p, R y t = true) : Top R m (fun x => X x ∨ x = y) ((T.take p ++ y :: T.drop p).take m) := by
  obtain ⟨a1, a2, a3, a4⟩ := h
  have hU : (T.take p ++ y :: T.drop p).Pairwise (fun a b => R a b = true) := by
    rw [List.pairwise_append]
    refine ⟨a1.sublist (List.take_sublist p T), ?_, ?_⟩
    · rw [List.pairwise_cons]
      exact ⟨h2, a1.sublist (List.drop_sublist p T)⟩
    · intro a ha b hb
      rcases List.mem_cons.mp hb with rfl | hb
      · exact h1 a ha
      · exact hR.1 _ _ _ (h1 a ha) (h2 b hb)
  have hm : ∀ x, x ∈ T.take p ++ y :: T.drop p ↔ x ∈ T ∨ x = y := by
    intro x
    have e := List.take_append_drop p T
    have : x ∈ T ↔ x ∈ T.take p ∨ x ∈ T.drop p := by
      conv => lhs; rw [← e]
      exact List.mem_append
    rw [this, List.mem_append, List.mem_cons]
    constructor
    · rintro (q | q | q)
      · exact Or.inl (Or.inl q)
      · exact Or.inr q
      · exact Or.inl (Or.inr q)
    · rintro ((q | q) | q)
      · exact Or.inl q
      · exact Or.inr (Or.inr q)
      · exact Or.inr (Or.inl q)
  have hlen : (T.take p ++ y :: T.drop p).length = T.length + 1 := by
    simp only [List.length_append, List.length_cons, List.length_take, List.length_drop]
    omega
  have hpre : (T.drop p = [] → T.take p = T) := by
    intro e
    have := List.take_append_drop p T
    rw [e, List.append_nil] at this
    exact this
  generalize hUe : T.take p ++ y :: T.drop p = U at *
  have hsplit := List.take_append_drop m U
  refine ⟨hU.sublist (List.take_sublist m U), by rw [List.length_take]; omega, fun t ht => ?_, fun x hx hn => ?_⟩
  · rcases (hm t).mp (List.mem_of_mem_take ht) with q | q
    · exact Or.inl (a3 t q)
    · exact Or.inr q
  · by_cases hxU : x ∈ U
    · have hxd : x ∈ U.drop m := by
        rw [← hsplit] at hxU
        exact (List.mem_append.mp hxU).resolve_left hn
      have hl : m < U.length := by
        rcases Nat.lt_or_ge m U.length with q | q
        · exact q
        · rw [List.drop_eq_nil_of_le q] at hxd
          exact absurd hxd List.not_mem_nil
      refine ⟨by rw [List.length_take]; omega, fun t ht => ?_⟩
      rw [← hsplit, List.pairwise_append] at hU
      exact hU.2.2 t ht x hxd
    · have hx2 : X x ∧ x ∉ T := ⟨hx.resolve_right (fun e => hxU ((hm x).mpr (Or.inr e))), fun e => hxU ((hm x).mpr (Or.inl e))⟩
      obtain ⟨b1, b2⟩ := a4 x hx2.1 hx2.2
      refine ⟨by rw [List.length_take]; omega, fun t ht => ?_⟩
      rcases (hm t).mp (List.mem_of_mem_take ht) with q | q
      · exact b2 t q
      · subst q
        rcases hd : T.drop p with _ | ⟨t', r⟩
        · exfalso
          have e1 := hpre hd
          rw [hd, e1] at hUe
          rw [← hUe, List.take_append_of_le_length (by omega), List.take_of_length_le (by omega)] at ht
          exact hy (a3 t ht)
        · have ht' : t' ∈ T.drop p := by rw [hd]; exact List.mem_cons_self
          exact hR.1 _ _ _ (h2 t' ht') (b2 t' (List.mem_of_mem_drop ht'))
/-- what is not let in -/
theorem Top.full {R : Nat → Nat → Bool} {m : Nat} {X : Nat → Prop} {T : List Nat} {y : Nat} (h : Top R m X T) (hl : T.length = m) (h1 : ∀ t ∈ T, R t y = true) : Top R m (fun x => X x ∨ x = y) T :=
  ⟨h.1, h.2.1, fun t ht => Or.inl (h.2.2.1 t ht), fun x hx hn => by
    rcases hx with hx | rfl
    · exact h.2.2.2 x hx hn
    · exact ⟨hl, h1⟩⟩
theorem len_sub {a : Nat} {T Z : List Nat} (hn : T.Nodup) (hs : ∀ t ∈ T, t ∈ Z) (ha : a ∈ Z) (hx : a ∉ T) : T.length + 1 ≤ Z.length := by
  have h : (a :: T).Nodup := List.nodup_cons.mpr ⟨hx, hn⟩
  have := List.Nodup.length_le_of_subset h (l₂ := Z) (fun x hx => by
    rcases List.mem_cons.mp hx with rfl | q
    · exact ha
    · exact hs x q)
  simpa using this
theorem Top.mem {R : Nat → Nat → Bool} {m : Nat} {X Y : Nat → Prop} {T Z : List Nat} (hR : SO R) (h : Top R m X T) (hz : Top R m Y Z) (hs : ∀ t ∈ T, Y t) {z : Nat} (h1 : z ∈ Z) (h2 : X z) : z ∈ T := by
  rcases Classical.em (z ∈ T) with q | q
  · exact q
  · obtain ⟨b1, b2⟩ := h.2.2.2 z h2 q
    have hsub : ∀ t ∈ T, t ∈ Z := by
      intro t ht
      rcases Classical.em (t ∈ Z) with w | w
      · exact w
      · exact absurd (hR.1 _ _ _ ((hz.2.2.2 t (hs t ht) w).2 z h1) (b2 t ht)) (hR.2.1 z)
    have := len_sub (h.nodup hR) hsub h1 q
    have := hz.2.1
    omega
theorem Top.out {R : Nat → Nat → Bool} {m : Nat} {X Y : Nat → Prop} {T Z : List Nat} (hR : SO R) (h : Top R m X T) (hz : Top R m Y Z) (hs : ∀ t ∈ T, Y t) {x : Nat} (h1 : X x) (h2 : x ∉ Z) : Z.length = m ∧ ∀ z ∈ Z, R z x = true := by
  rcases Classical.em (x ∈ T) with q | q
  · exact hz.2.2.2 x (hs x q) h2
  · obtain ⟨b1, b2⟩ := h.2.2.2 x h1 q
    constructor
    · rcases Classical.em (∀ t ∈ T, t ∈ Z) with w | w
      · have := List.Nodup.length_le_of_subset (h.nodup hR) (l₂ := Z) (fun t ht => w t ht)
        have := hz.2.1
        omega
      · obtain ⟨t, ht⟩ := Classical.not_forall.mp w
        obtain ⟨ht1, ht2⟩ := Classical.not_imp.mp ht
        exact (hz.2.2.2 t (hs t ht1) ht2).1
    · intro z hz1
      rcases Classical.em (R z x = true) with w | w
      · exact w
      · exfalso
        have hxz : R x z = true := (hR.2.2 x z (fun e => h2 (e ▸ hz1))).resolve_right w
        have hsub : ∀ t ∈ T, t ∈ Z := by
          intro t ht
          rcases Classical.em (t ∈ Z) with v | v
          · exact v
          · exact absurd (hR.1 _ _ _ ((hz.2.2.2 t (hs t ht) v).2 z hz1) (hR.1 _ _ _ (b2 t ht) hxz)) (hR.2.1 z)
        have hzT : z ∉ T := fun e => w (b2 z e)
        have := len_sub (h.nodup hR) hsub hz1 hzT
        have := hz.2.1
        omega
theorem Top.union {R : Nat → Nat → Bool} {m : Nat} {X0 X1 : Nat → Prop} {T0 T1 Z : List Nat} (hR : SO R) (h0 : Top R m X0 T0) (h1 : Top R m X1 T1) (hz : Top R m (fun x => x ∈ T0 ∨ x ∈ T1) Z) : Top R m (fun x => X0 x ∨ X1 x) Z :=
  ⟨hz.1, hz.2.1, fun t ht => (hz.2.2.1 t ht).elim (fun q => Or.inl (h0.2.2.1 t q)) (fun q => Or.inr (h1.2.2.1 t q)), fun x hx hn => by
    rcases hx with hx | hx
    · exact h0.out hR hz (fun t ht => Or.inl ht) hx hn
    · exact h1.out hR hz (fun t ht => Or.inr ht) hx hn⟩
/-! counting -/
def cnt (b : Nat → Bool) (N : Nat) : Nat := ((List.range N).filter b).length
theorem cnt_0 (b : Nat → Bool) : cnt b 0 = 0 := rfl
theorem cnt_s (b : Nat → Bool) (N : Nat) : cnt b (N + 1) = cnt b N + (if b N = true then 1 else 0) := by
  unfold cnt
  rw [List.range_succ, List.filter_append, List.length_append]
  cases h : b N <;> simp [List.filter, h]
theorem cnt_le (b : Nat → Bool) (N : Nat) : cnt b N ≤ N := by
  unfold cnt
  have := List.length_filter_le b (List.range N)
  rw [List.length_range] at this
  exact this
theorem cnt_of {b : Nat → Bool} {N : Nat} {S : List Nat} (hn : S.Nodup) (h : ∀ x, x ∈ S ↔ x < N ∧ b x = true) : cnt b N = S.length := by
  unfold cnt
  refine List.Perm.length_eq ((List.perm_ext_iff_of_nodup (List.nodup_range.filter _) hn).mpr ?_)
  intro a
  rw [h a, List.mem_filter, List.mem_range]
theorem cnt_ge {b : Nat → Bool} {N : Nat} {S : List Nat} (hn : S.Nodup) (h : ∀ x ∈ S, x < N ∧ b x = true) : S.length ≤ cnt b N := by
  unfold cnt
  refine List.Nodup.length_le_of_subset hn ?_
  intro a ha
  rw [List.mem_filter, List.mem_range]
  exact h a ha
theorem cnt_up {b : Nat → Bool} {N : Nat} {S : List Nat} (h : ∀ x, x < N → b x = true → x ∈ S) : cnt b N ≤ S.length := by
  unfold cnt
  refine List.Nodup.length_le_of_subset (List.nodup_range.filter _) ?_
  intro a ha
  rw [List.mem_filter, List.mem_range] at ha
  exact h a ha.1 ha.2
theorem cnt_eq {b b' : Nat → Bool} {N : Nat} (h : ∀ x, x < N → b x = b' x) : cnt b N = cnt b' N := by
  induction N with
  | zero => rfl
  | succ N ih => rw [cnt_s, cnt_s, ih (fun x hx => h x (by omega)), h N (by omega)]
theorem Top.rank {R : Nat → Nat → Bool} {m N : Nat} {X : Nat → Prop} {T : List Nat} (hR : SO R) (h : Top R m X T) (hN : ∀ x, X x → x < N) {b : Nat → Bool} {a p : Nat} (hb : ∀ x, x < N → (b x = true ↔ X x ∧ R x a = true)) (hp : T[p]? = some a) : cnt b N = p := by
  have hpl : p < T.length := (List.getElem?_eq_some_iff.mp hp).1
  have hlt : (T.take p).length = p := by rw [List.length_take]; omega
  rw [← hlt]
  refine cnt_of ((h.nodup hR).sublist (List.take_sublist p T)) ?_
  have hsp : T.take p ++ a :: T.drop (p + 1) = T := by
    have e1 := (List.getElem?_eq_some_iff.mp hp).2
    rw [← e1, List.getElem_cons_drop, List.take_append_drop]
  have hpw := h.1
  rw [← hsp, List.pairwise_append, List.pairwise_cons] at hpw
  obtain ⟨-, ⟨q2, -⟩, q3⟩ := hpw
  intro x
  constructor
  · intro hx
    have hX := h.2.2.1 x (List.mem_of_mem_take hx)
    exact ⟨hN x hX, (hb x (hN x hX)).mpr ⟨hX, q3 x hx a List.mem_cons_self⟩⟩
  · rintro ⟨hx, hbx⟩
    obtain ⟨hX, hRx⟩ := (hb x hx).mp hbx
    have haT : a ∈ T := List.mem_of_getElem? hp
    have hxT : x ∈ T := by
      rcases Classical.em (x ∈ T) with q | q
      · exact q
      · exact absurd (hR.1 _ _ _ ((h.2.2.2 x hX q).2 a haT) hRx) (hR.2.1 a)
    rw [← hsp] at hxT
    rcases List.mem_append.mp hxT with q | q
    · exact q
    · rcases List.mem_cons.mp q with rfl | q
      · exact absurd hRx (hR.2.1 x)
      · exact absurd (hR.1 _ _ _ hRx (q2 x q)) (hR.2.1 x)
theorem Top.rank' {R : Nat → Nat → Bool} {m N : Nat} {X : Nat → Prop} {T : List Nat} (hR : SO R) (h : Top R m X T) (hN : ∀ x, X x → x < N) {b : Nat → Bool} {a p : Nat} (hb : ∀ x, x < N → (b x = true ↔ X x ∧ R x a = true)) (ha : X a) (hp : cnt b N = p) (hm : p < m) : T[p]? = some a := by
  rcases Classical.em (a ∈ T) with q | q
  · obtain ⟨i, hi⟩ := List.getElem?_of_mem q
    have := h.rank hR hN hb hi
    rw [← hp, this]
    exact hi
  · obtain ⟨b1, b2⟩ := h.2.2.2 a ha q
    have := cnt_ge (b := b) (N := N) (h.nodup hR) (fun x hx => ⟨hN x (h.2.2.1 x hx), (hb x (hN x (h.2.2.1 x hx))).mpr ⟨h.2.2.1 x hx, b2 x hx⟩⟩)
    omega
theorem Top.len {R : Nat → Nat → Bool} {m N : Nat} {X : Nat → Prop} {T : List Nat} (hR : SO R) (h : Top R m X T) (hN : ∀ x, X x → x < N) {b : Nat → Bool} (hb : ∀ x, x < N → (b x = true ↔ X x)) : T.length = min m (cnt b N) := by
  have h1 := cnt_ge (b := b) (N := N) (h.nodup hR) (fun x hx => ⟨hN x (h.2.2.1 x hx), (hb x (hN x (h.2.2.1 x hx))).mpr (h.2.2.1 x hx)⟩)
  have h2 := h.2.1
  rcases Classical.em (∀ x, X x → x ∈ T) with q | q
  · have := cnt_up (b := b) (N := N) (S := T) (fun x hx hbx => q x ((hb x hx).mp hbx))
    omega
  · obtain ⟨x, hx⟩ := Classical.not_forall.mp q
    obtain ⟨hx1, hx2⟩ := Classical.not_imp.mp hx
    have := (h.2.2.2 x hx1 hx2).1
    omega
/-- the list of a smaller first part of an order that a list of another kind tells -/
theorem map_ex {f : Nat → Nat} {P : Nat → Prop} : ∀ {T : List Nat}, (∀ t ∈ T, ∃ i, P i ∧ f i = t) → ∃ I : List Nat, I.map f = T ∧ ∀ i ∈ I, P i := by
  intro T
  induction T with
  | nil => intro _; exact ⟨[], rfl, fun i h => nomatch h⟩
  | cons t T ih =>
    intro h
    obtain ⟨I, h1, h2⟩ := ih (fun t ht => h t (List.mem_cons_of_mem _ ht))
    obtain ⟨i, hi1, hi2⟩ := h t List.mem_cons_self
    exact ⟨i :: I, by rw [List.map_cons, h1, hi2], fun j hj => by
      rcases List.mem_cons.mp hj with rfl | q
      · exact hi1
      · exact h2 j q⟩
