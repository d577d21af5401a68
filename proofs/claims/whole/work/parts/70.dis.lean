theorem Xv_le {it : Nat → Int32} {P : Nat → Bool} (hV : VI it P) {v : Nat} (h : Xv it P v) : v ≤ 1000000 := by
  obtain ⟨a, -, h2, rfl⟩ := h
  exact (hV.val h2).1
theorem vl_inj {it : Nat → Int32} {P : Nat → Bool} (hV : VI it P) {a b : Nat} (ha : P a = true) (hb : P b = true) (h : vl it a = vl it b) : it a = it b := by
  rw [(hV.val ha).2, (hV.val hb).2, h]
theorem idx_ex {it : Nat → Int32} {P : Nat → Bool} {k : Nat} {T : List Nat} (hV : VI it P) (hT : Top Rh k (Xv it P) T) : ∃ I : List Nat, I.map (vl it) = T ∧ Top (Ri it) k (fun a => a < 600 ∧ New it P a = true) I := by
  obtain ⟨I, h1, h2⟩ := map_ex (f := vl it) (P := fun a => a < 600 ∧ New it P a = true) (T := T) (fun t ht => New_ex (hT.2.2.1 t ht))
  have hlen : I.length = T.length := by rw [← h1, List.length_map]
  have hle : ∀ i ∈ I, vl it i ≤ 1000000 := fun i hi => (hV.val (New_iff.mp (h2 i hi).2).1).1
  have key : ∀ u v : Nat, u ≤ 1000000 → v ≤ 1000000 → Rh u v = true → hv u < hv v := by
    intro u v hu hw h
    rw [Rh_iff] at h
    rcases h with h | ⟨h, hlt⟩
    · exact h
    · have := hv_inj hu hw h
      omega
  refine ⟨I, h1, ?_, by rw [hlen]; exact hT.2.1, h2, fun x hx hn => ?_⟩
  · have hp := hT.1
    rw [← h1, List.pairwise_map] at hp
    rw [List.pairwise_iff_getElem] at hp ⊢
    intro i j hi hj hij
    rw [Ri_iff]
    exact Or.inl (key _ _ (hle _ (List.getElem_mem hi)) (hle _ (List.getElem_mem hj)) (hp i j hi hj hij))
  · have hxP := (New_iff.mp hx.2).1
    have hnT : vl it x ∉ T := by
      intro hm
      rw [← h1] at hm
      obtain ⟨i, hi, e⟩ := List.mem_map.mp hm
      have := New_inj (h2 i hi).2 hx.2 (vl_inj hV (New_iff.mp (h2 i hi).2).1 hxP e)
      exact hn (by rw [← this]; exact hi)
    obtain ⟨b1, b2⟩ := hT.2.2.2 (vl it x) ⟨x, hx.1, hxP, rfl⟩ hnT
    refine ⟨by rw [hlen]; exact b1, fun i hi => ?_⟩
    rw [Ri_iff]
    exact Or.inl (key _ _ (hle i hi) (hV.val hxP).1 (b2 (vl it i) (by rw [← h1]; exact List.mem_map.mpr ⟨i, hi, rfl⟩)))
section
variable {it w : Nat → Int32} {P : Nat → Bool} {k : Nat} {I : List Nat}
def HB (it : Nat → Int32) (P : Nat → Bool) (a b : Nat) : Bool := New it P b && decide (hv (vl it b) < hv (vl it a))
theorem HB_iff {a b : Nat} : HB it P a b = true ↔ New it P b = true ∧ hv (vl it b) < hv (vl it a) := by
  unfold HB
  rw [Bool.and_eq_true, decide_eq_true_iff]
theorem HB_R (hV : VI it P) {a : Nat} (ha : New it P a = true) : ∀ x, x < 600 → (HB it P a x = true ↔ (x < 600 ∧ New it P x = true) ∧ Ri it x a = true) := by
  intro x hx
  rw [HB_iff, Ri_iff]
  constructor
  · rintro ⟨h1, h2⟩
    exact ⟨⟨hx, h1⟩, Or.inl h2⟩
  · rintro ⟨⟨-, h1⟩, h2 | ⟨h2, h3⟩⟩
    · exact ⟨h1, h2⟩
    · have hx1 := (New_iff.mp h1).1
      have ha1 := (New_iff.mp ha).1
      have := New_inj h1 ha (vl_inj hV hx1 ha1 (hv_inj (hV.val hx1).1 (hV.val ha1).1 h2))
      omega
theorem hsN (hV : VI it P) (hw : ∀ j, j < 600 → w j = bI (New it P j)) {a : Nat} (ha : New it P a = true) (la : a < 600) : ∀ (fu b : Nat), b ≤ 600 → 600 - b < fu → mHsN w it a fu b (nI (cnt (HB it P a) b)) = nI (cnt (HB it P a) 600) := by
  intro fu
  induction fu with
  | zero => intro b _ h; exact absurd h (Nat.not_lt_zero _)
  | succ fu ih =>
    intro b hb hf
    unfold mHsN
    by_cases c : b = 600
    · rw [if_pos ((lt_600 hb).mpr c), c]
    · rw [if_neg (fun h => c ((lt_600 hb).mp h)), nI_clamp (n := b) (by omega), nI_clamp (n := a) (by omega), hw b (by omega)]
      have hs1 := cnt_s (HB it P a) b
      have hih := ih (b + 1) (by omega) (by omega)
      have ha1 := hV.val (New_iff.mp ha).1
      by_cases c1 : New it P b = true
      · rw [if_neg (fun h => bI_0.mp h c1)]
        have hb1 := hV.val (New_iff.mp c1).1
        have hcmp : 0 ≤ lg_cmp (hash_ (it b)) (hash_ (it a)) ↔ hv (vl it a) ≤ hv (vl it b) := by
          rw [hb1.2, ha1.2, hash_nI hb1.1, hash_nI ha1.1, lg_cmp_ge, pk_lLE (by have := hv_lt (vl it a); omega) (by have := hv_lt (vl it b); omega)]
        by_cases c2 : hv (vl it a) ≤ hv (vl it b)
        · rw [if_pos (hcmp.mpr c2), Int32.add_zero]
          rw [if_neg (fun h => by have := (HB_iff.mp h).2; omega)] at hs1
          rw [show cnt (HB it P a) b = cnt (HB it P a) (b + 1) from hs1.symm]
          exact hih
        · rw [if_neg (fun h => c2 (hcmp.mp h)), nI_1]
          rw [if_pos (HB_iff.mpr ⟨c1, by omega⟩)] at hs1
          rw [← hs1]
          exact hih
      · rw [if_pos (bI_0.mpr c1), Int32.add_zero]
        rw [if_neg (fun h => c1 (HB_iff.mp h).1)] at hs1
        rw [show cnt (HB it P a) b = cnt (HB it P a) (b + 1) from hs1.symm]
        exact hih
/-- what has been found below a -/
def fnd (I : List Nat) (p a : Nat) : Int32 := match I[p]? with | some z => if z < a then nI z else -1 | none => -1
theorem hsL (hV : VI it P) (hw : ∀ j, j < 600 → w j = bI (New it P j)) (hI : Top (Ri it) k (fun a => a < 600 ∧ New it P a = true) I) {p : Nat} (hp : p < k) (hk : k ≤ 16) : ∀ (fu a : Nat), a ≤ 600 → 600 - a < fu → mHsL w it (nI p) fu a (fnd I p a) = plc I p := by
  have hR := Ri_so it
  intro fu
  induction fu with
  | zero => intro a _ h; exact absurd h (Nat.not_lt_zero _)
  | succ fu ih =>
    intro a ha hf
    unfold mHsL
    by_cases c : a = 600
    · rw [if_pos ((lt_600 ha).mpr c)]
      unfold fnd plc
      rcases hq : I[p]? with _ | z
      · rfl
      · have := (hI.2.2.1 z (List.mem_of_getElem? hq)).1
        show (if z < a then nI z else -1) = nI z
        rw [if_pos (by omega)]
    · rw [if_neg (fun h => c ((lt_600 ha).mp h)), nI_clamp (n := a) (by omega), hw a (by omega)]
      have hih := ih (a + 1) (by omega) (by omega)
      have same : I[p]? ≠ some a → fnd I p (a + 1) = fnd I p a := by
        intro hne
        unfold fnd
        rcases hq : I[p]? with _ | z
        · rfl
        · have : z ≠ a := fun e => hne (by rw [hq, e])
          show (if z < a + 1 then nI z else -1) = (if z < a then nI z else -1)
          by_cases cz : z < a
          · rw [if_pos cz, if_pos (by omega)]
          · rw [if_neg cz, if_neg (by omega)]
      by_cases c1 : New it P a = true
      · rw [if_neg (fun h => bI_0.mp h c1)]
        have hn := hsN hV hw c1 (by omega) (600 - 0 + 1) 0 (by omega) (by omega)
        rw [cnt_0, nI_0] at hn
        rw [hn]
        have hle := cnt_le (HB it P a) 600
        by_cases c2 : cnt (HB it P a) 600 = p
        · rw [if_pos (by rw [c2])]
          have hf2 := hI.rank' hR (fun x hx => hx.1) (HB_R hV c1) ⟨by omega, c1⟩ c2 hp
          have : fnd I p (a + 1) = nI a := by
            unfold fnd
            rw [hf2]
            show (if a < a + 1 then nI a else -1) = nI a
            rw [if_pos (by omega)]
          rw [this] at hih
          exact hih
        · rw [if_neg (fun h => c2 ((nI_eq (by omega) (by omega)).mp h)), ← same (fun h => c2 (hI.rank hR (fun x hx => hx.1) (HB_R hV c1) h))]
          exact hih
      · rw [if_pos (bI_0.mpr c1), ← same (fun h => c1 (hI.2.2.1 a (List.mem_of_getElem? h)).2)]
        exact hih
theorem hs_spec (hV : VI it P) (hw : ∀ j, j < 600 → w j = bI (New it P j)) (hI : Top (Ri it) k (fun a => a < 600 ∧ New it P a = true) I) {p : Nat} (hp : p < k) (hk : k ≤ 16) : mHs w it (nI p) = plc I p := by
  have := hsL hV hw hI hp hk (600 - 0 + 1) 0 (by omega) (by omega)
  have e : fnd I p 0 = -1 := by
    unfold fnd
    rcases I[p]? with _ | z
    · rfl
    · show (if z < 0 then nI z else -1) = -1
      rw [if_neg (Nat.not_lt_zero _)]
  rw [e] at this
  exact this
end
