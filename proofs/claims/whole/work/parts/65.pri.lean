/-! the reference's order by priorities is the class's -/
theorem lt_600 {b : Nat} (hb : b ≤ 600) : ((600 : Int32) ≤ nI b) ↔ b = 600 := by
  rw [show (600 : Int32) = nI 600 from rfl, nI_leI (by omega) (by omega)]
  omega
theorem ahead0 {we fi : Nat → Int32} {x z : Nat} (hx : VP we fi x) (hz : VP we fi z) (lx : x < 600) (lz : z < 600) : mAhead we fi (nI x) (nI z) = 0 ↔ ¬ Rp we fi x z = true := by
  unfold mAhead mOwn
  rw [nI_clamp (n := x) (by omega), nI_clamp (n := z) (by omega), (ow_l hx hz).1, (ow_l hz hx).1]
  simp only [lg_cmp_gt, lg_cmp_eq, pk_lLT (ow_l hz hx).2 (ow_l hx hz).2, pk_lEQ (ow_l hx hz).2 (ow_l hz hx).2, nI_leI (a := z) (b := x) (by omega) (by omega), Rp_iff]
  by_cases c1 : ow we fi z x < ow we fi x z
  · rw [if_pos c1]
    exact ⟨fun h => absurd h (by decide), fun h => absurd (Or.inl c1) h⟩
  · rw [if_neg c1]
    by_cases c2 : ow we fi x z = ow we fi z x
    · rw [if_pos c2]
      by_cases c3 : z ≤ x
      · rw [if_pos c3]
        exact ⟨fun _ h => by omega, fun _ => rfl⟩
      · rw [if_neg c3]
        exact ⟨fun h => absurd h (by decide), fun h => absurd (Or.inr ⟨c2, by omega⟩) h⟩
    · rw [if_neg c2]
      exact ⟨fun _ h => by omega, fun _ => rfl⟩
theorem XS_lt {n0 n1 st x : Nat} (h0 : n0 ≤ 300) (h1 : n1 ≤ 300) (h : XS n0 n1 st x = true) : x < 600 := by
  have := XS_iff.mp h
  omega
section
variable {many we fi : Nat → Int32} {n0 n1 st : Nat}
theorem rkN (hm : MC many n0 n1) (hs : st ≤ 2) (hV : ∀ x, XS n0 n1 st x = true → VP we fi x) {a : Nat} (ha : XS n0 n1 st a = true) (la : a < 600) : ∀ (fu b : Nat), b ≤ 600 → 600 - b < fu →
    mRkN many we fi (nI st) a fu b (nI (cnt (fun c => XS n0 n1 st c && Rp we fi c a) b)) = nI (cnt (fun c => XS n0 n1 st c && Rp we fi c a) 600) := by
  intro fu
  induction fu with
  | zero => intro b _ h; exact absurd h (Nat.not_lt_zero _)
  | succ fu ih =>
    intro b hb hf
    unfold mRkN
    by_cases c : b = 600
    · rw [if_pos ((lt_600 hb).mpr c), c]
    · rw [if_neg (fun h => c ((lt_600 hb).mp h))]
      have hs1 := cnt_s (fun c => XS n0 n1 st c && Rp we fi c a) b
      have hih := ih (b + 1) (by omega) (by omega)
      by_cases c1 : XS n0 n1 st b = true
      · rw [if_neg (fun h => (isof0 hm hs (by omega)).mp h c1)]
        by_cases c2 : b = a
        · rw [if_pos (by rw [c2]), Int32.add_zero]
          have : ¬ (XS n0 n1 st b && Rp we fi b a) = true := by
            rw [Bool.and_eq_true, c2]
            exact fun h => (Rp_so we fi).2.1 a h.2
          rw [if_neg this] at hs1
          rw [show cnt (fun c => XS n0 n1 st c && Rp we fi c a) b = cnt (fun c => XS n0 n1 st c && Rp we fi c a) (b + 1) from hs1.symm]
          exact hih
        · rw [if_neg (fun h => c2 ((nI_eq (by omega) (by omega)).mp h))]
          by_cases c3 : Rp we fi b a = true
          · rw [if_neg (fun h => (ahead0 (hV b c1) (hV a ha) (by omega) la).mp h c3), nI_1]
            rw [if_pos (by rw [c1, c3]; rfl)] at hs1
            rw [← hs1]
            exact hih
          · rw [if_pos ((ahead0 (hV b c1) (hV a ha) (by omega) la).mpr c3), Int32.add_zero]
            rw [if_neg (by rw [Bool.and_eq_true]; exact fun h => c3 h.2)] at hs1
            rw [show cnt (fun c => XS n0 n1 st c && Rp we fi c a) b = cnt (fun c => XS n0 n1 st c && Rp we fi c a) (b + 1) from hs1.symm]
            exact hih
      · rw [if_pos ((isof0 hm hs (by omega)).mpr c1), Int32.add_zero]
        rw [if_neg (by rw [Bool.and_eq_true]; exact fun h => c1 h.1)] at hs1
        rw [show cnt (fun c => XS n0 n1 st c && Rp we fi c a) b = cnt (fun c => XS n0 n1 st c && Rp we fi c a) (b + 1) from hs1.symm]
        exact hih
theorem nI_m1ne {z : Nat} (hz : z < 2147483648) : ¬ nI z = -1 := by
  intro h
  have := nI_pos (n := z) (by omega)
  rw [h] at this
  exact this (by decide)
theorem rkL_f {pl : Int32} {z : Nat} (hz : z < 600) : ∀ (fu a : Nat), mRkL many we fi (nI st) pl fu a (nI z) = nI z := by
  intro fu
  cases fu with
  | zero => intro a; rfl
  | succ fu =>
    intro a
    unfold mRkL
    rw [if_neg (nI_m1ne (by omega))]
    exact ite_self _
/-- the place that the reference finds -/
def plc (T : List Nat) (p : Nat) : Int32 := match T[p]? with | some z => nI z | none => -1
theorem rkL {m : Nat} {T : List Nat} (hm : MC many n0 n1) (hs : st ≤ 2) (hV : ∀ x, XS n0 n1 st x = true → VP we fi x) (hT : Top (Rp we fi) m (fun x => XS n0 n1 st x = true) T) {p : Nat} (hp : p < m) (hpb : p < 2147483648) : ∀ (fu a : Nat), a ≤ 600 → 600 - a < fu → (∀ z, T[p]? = some z → a ≤ z) →
    mRkL many we fi (nI st) (nI p) fu a (-1) = plc T p := by
  have hR := Rp_so we fi
  have hN : ∀ x, XS n0 n1 st x = true → x < 600 := fun x h => XS_lt hm.2.2.1 hm.2.2.2 h
  intro fu
  induction fu with
  | zero => intro a _ h; exact absurd h (Nat.not_lt_zero _)
  | succ fu ih =>
    intro a ha hf hz
    unfold mRkL
    by_cases c : a = 600
    · rw [if_pos ((lt_600 ha).mpr c)]
      unfold plc
      rcases hq : T[p]? with _ | z
      · rfl
      · have h1 := hz z hq
        have h2 := hN z (hT.2.2.1 z (List.mem_of_getElem? hq))
        omega
    · rw [if_neg (fun h => c ((lt_600 ha).mp h)), if_pos rfl]
      by_cases c1 : XS n0 n1 st a = true
      · rw [if_neg (fun h => (isof0 hm hs (by omega)).mp h c1)]
        have hk := rkN hm hs hV c1 (by omega) (600 - 0 + 1) 0 (by omega) (by omega)
        rw [cnt_0, nI_0] at hk
        rw [hk]
        have hb : ∀ x, x < 600 → ((XS n0 n1 st x && Rp we fi x a) = true ↔ XS n0 n1 st x = true ∧ Rp we fi x a = true) := fun x _ => Bool.and_eq_true_iff
        have hle := cnt_le (fun c => XS n0 n1 st c && Rp we fi c a) 600
        by_cases c2 : cnt (fun c => XS n0 n1 st c && Rp we fi c a) 600 = p
        · rw [if_pos (by rw [c2]), rkL_f (by omega)]
          have := hT.rank' hR hN hb c1 c2 hp
          unfold plc
          rw [this]
        · rw [if_neg (fun h => c2 ((nI_eq (by omega) (by omega)).mp h))]
          refine ih (a + 1) (by omega) (by omega) (fun z hq => ?_)
          have h1 := hz z hq
          rcases Nat.lt_or_ge a z with q | q
          · exact q
          · have e : z = a := by omega
            subst e
            exact absurd (hT.rank hR hN hb hq) c2
      · rw [if_pos ((isof0 hm hs (by omega)).mpr c1)]
        refine ih (a + 1) (by omega) (by omega) (fun z hq => ?_)
        have h1 := hz z hq
        rcases Nat.lt_or_ge a z with q | q
        · exact q
        · have e : z = a := by omega
          subst e
          exact absurd (hT.2.2.1 _ (List.mem_of_getElem? hq)) c1
theorem rk_spec {m : Nat} {T : List Nat} (hm : MC many n0 n1) (hs : st ≤ 2) (hV : ∀ x, XS n0 n1 st x = true → VP we fi x) (hT : Top (Rp we fi) m (fun x => XS n0 n1 st x = true) T) {p : Nat} (hp : p < m) (hpb : p < 2147483648) : mRk many we fi (nI st) (nI p) = plc T p :=
  rkL hm hs hV hT hp hpb _ 0 (by omega) (by omega) (fun z _ => Nat.zero_le z)
theorem plc_some {T : List Nat} {p z : Nat} (h : T[p]? = some z) : plc T p = nI z := by unfold plc; rw [h]
theorem plc_none {T : List Nat} {p : Nat} (h : T[p]? = none) : plc T p = -1 := by unfold plc; rw [h]
theorem all_N (hm : MC many n0 n1) (hs : st ≤ 2) : mAll many (nI st) = nI (allN n0 n1 st) := by
  unfold mAll allN
  by_cases c : st = 2
  · subst c
    rw [if_pos (show nI 2 = 2 from rfl), if_pos rfl, ← nI_add]
    show many 0 + many 1 = _
    rw [hm.1, hm.2.1]
  · rw [if_neg (show ¬ nI st = 2 from fun hh => c ((nI_eq (by omega) (by decide)).mp hh)), if_neg c, nI_clamp (by omega)]
    by_cases c2 : st = 0
    · subst c2
      rw [if_pos rfl]
      exact hm.1
    · rw [if_neg c2, show st = 1 by omega]
      exact hm.2.1
theorem sam_N (hm : MC many n0 n1) (hs : st ≤ 2) {k : Nat} (hk : k ≤ 16) : mSam many (nI k) (nI st) = nI (min k (allN n0 n1 st)) := by
  have h1 := hm.2.2.1
  have h2 := hm.2.2.2
  have : allN n0 n1 st ≤ 600 := by
    unfold allN
    split
    · omega
    · split <;> omega
  unfold mSam
  rw [all_N hm hs]
  by_cases c : k ≤ allN n0 n1 st
  · rw [if_pos (nI_le c (by omega)), Nat.min_eq_left c]
  · rw [if_neg (fun hh => c ((nI_leI (by omega) (by omega)).mp hh)), Nat.min_eq_right (by omega)]
end
/-! places -/
theorem sub1_toInt {s : Nat} (h : s < 2147483648) : (nI s - 1).toInt = (s : Int) - 1 := by
  rw [Int32.toInt_sub, nI_toInt (by omega), show (1 : Int32).toInt = 1 from rfl]
  exact Int.bmod_eq_of_le (by omega) (by omega)
theorem okPA {sl : Int32} {s : Nat} (h : s < 2147483648) : okP sl (nI s) ↔ okA sl 0 (nI s - 1) := by
  unfold okP okA
  rw [Int32.lt_iff_toInt_lt, Int32.lt_iff_toInt_lt, Int32.le_iff_toInt_le, sub1_toInt h, nI_toInt (by omega)]
  omega
theorem okP_nI {sl : Int32} {s : Nat} (h : s < 2147483648) (hk : okP sl (nI s)) : ∃ p, p < s ∧ sl = nI p := by
  obtain ⟨j, hj, rfl⟩ := nI_of hk.1
  exact ⟨j, (nI_ltI (by omega) (by omega)).mp hk.2, rfl⟩
