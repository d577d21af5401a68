/-! both streams' samples in one, and what is asked of a sample -/
theorem mem_take_iff {T : List Nat} {p t : Nat} : t ∈ T.take p ↔ ∃ i, i < p ∧ T[i]? = some t := by
  constructor
  · exact mem_take_get
  · rintro ⟨i, h1, h2⟩
    exact List.mem_of_getElem? (i := i) (by rw [List.getElem?_take, if_pos h1]; exact h2)
theorem RelPri.mono {it we gr fi : Nat → Int32} {k : Nat} {X Y : Nat → Prop} {T : List Nat} {q : PriT} (h : RelPri it we gr fi k X T q) (ht : Top (Rp we fi) (k + 1) Y T) : RelPri it we gr fi k Y T q := ⟨ht, h.2⟩
theorem RelPri.start {it we gr fi : Nat → Int32} {k : Nat} {X : Nat → Prop} (hX : ∀ x, ¬ X x) (z : PriT) : RelPri it we gr fi k X [] (priStart (nI k) z) :=
  ⟨Top.none hX, rfl, nI_0.symm, fun p x h => by simp at h⟩
theorem RelPri.allL {it we gr fi : Nat → Int32} {k : Nat} {X Y : Nat → Prop} {T : List Nat} {q : PriT} (hq : RelPri it we gr fi k Y T q) (hk : k ≤ 16) (hX : ∀ x, X x → VP we fi x) (hY : ∀ x, Y x → VP we fi x) (hd : ∀ x y, X x → Y y → x < y) :
    ∀ (fu i : Nat) (Z : List Nat) (r : PriT), i ≤ T.length → T.length - i < fu → RelPri it we gr fi k (fun x => X x ∨ x ∈ T.take i) Z r → ∃ Z', RelPri it we gr fi k (fun x => X x ∨ x ∈ T) Z' (paL q (nI T.length) fu (nI i) r) := by
  have hR := Rp_so we fi
  have hlm := hq.1.2.1
  intro fu
  induction fu with
  | zero => intro i Z r _ h; exact absurd h (Nat.not_lt_zero _)
  | succ fu ih =>
    intro i Z r hi hf hr
    unfold paL
    by_cases c : nI T.length ≤ nI i
    · rw [if_pos c]
      rw [nI_leI (by omega) (by omega)] at c
      refine ⟨Z, hr.mono (hr.1.congr (fun x => ?_))⟩
      rw [List.take_of_length_le (by omega)]
    · rw [if_neg c]
      rw [nI_leI (by omega) (by omega)] at c
      obtain ⟨y, hy⟩ : ∃ y, T[i]? = some y := ⟨_, List.getElem?_eq_getElem (by omega)⟩
      have hyT := List.mem_of_getElem? hy
      have hyY := hq.1.2.2.1 y hyT
      obtain ⟨e1, e2, e3, e4⟩ := hq.2.2.2 i y hy
      rw [at_nI (by omega) (by decide), at_nI (by omega) (by decide), at_nI (by omega) (by decide), at_nI (by omega) (by decide), e1, e2, e3, e4]
      have hX2 : ∀ x, (X x ∨ x ∈ T.take i) → VP we fi x := fun x h => h.elim (hX x) (fun q => hY x (hq.1.2.2.1 x (List.mem_of_mem_take q)))
      have hn : ¬ (X y ∨ y ∈ T.take i) := by
        rintro (h | h)
        · exact absurd (hd y y h hyY) (Nat.lt_irrefl _)
        · obtain ⟨j, h1, h2⟩ := mem_take_get h
          exact hR.2.1 y (pw_get hq.1.1 h1 h2 hy)
      have hc : ∀ x ∈ Z, ow we fi y x = ow we fi x y → x < y := by
        intro x hx he
        rcases hr.1.2.2.1 x hx with h | h
        · exact hd x y h hyY
        · obtain ⟨j, h1, h2⟩ := mem_take_get h
          have := pw_get hq.1.1 h1 h2 hy
          rw [Rp_iff] at this
          omega
      obtain ⟨Z2, hZ2⟩ := hr.add hk hX2 (hY y hyY) hn hc
      rw [nI_1]
      refine ih (i + 1) Z2 _ (by omega) (by omega) (hZ2.mono (hZ2.1.congr (fun x => ?_)))
      rw [mem_take_iff, mem_take_iff]
      constructor
      · rintro ((h | ⟨j, h1, h2⟩) | rfl)
        · exact Or.inl h
        · exact Or.inr ⟨j, by omega, h2⟩
        · exact Or.inr ⟨i, by omega, hy⟩
      · rintro (h | ⟨j, h1, h2⟩)
        · exact Or.inl (Or.inl h)
        · rcases Nat.lt_or_ge j i with q | q
          · exact Or.inl (Or.inr ⟨j, q, h2⟩)
          · have : j = i := by omega
            subst this
            exact Or.inr (Option.some.inj (h2.symm.trans hy))
theorem RelPri.all {it we gr fi : Nat → Int32} {k : Nat} {X Y : Nat → Prop} {T Z : List Nat} {q r : PriT} (hr : RelPri it we gr fi k X Z r) (hq : RelPri it we gr fi k Y T q) (hk : k ≤ 16) (hX : ∀ x, X x → VP we fi x) (hY : ∀ x, Y x → VP we fi x) (hd : ∀ x y, X x → Y y → x < y) :
    ∃ Z', RelPri it we gr fi k (fun x => X x ∨ x ∈ T) Z' (priAll r q) := by
  have hlm := hq.1.2.1
  unfold priAll
  rw [sld_eq, hq.2.2.1, nI_toInt (by omega), show (0 : Int32).toInt = 0 from rfl]
  exact hq.allL hk hX hY hd _ 0 Z r (Nat.zero_le _) (by omega) (hr.mono (hr.1.congr (fun x => by simp)))
theorem RelPri.merge {it we gr fi : Nat → Int32} {k : Nat} {X0 X1 : Nat → Prop} {T0 T1 : List Nat} {q0 q1 : PriT} (h0 : RelPri it we gr fi k X0 T0 q0) (h1 : RelPri it we gr fi k X1 T1 q1) (hk : k ≤ 16) (hX0 : ∀ x, X0 x → VP we fi x) (hX1 : ∀ x, X1 x → VP we fi x) (hd : ∀ x y, X0 x → X1 y → x < y) (z : PriT) :
    ∃ Z, RelPri it we gr fi k (fun x => X0 x ∨ X1 x) Z (priAll (priAll (priStart (nI k) z) q0) q1) := by
  have hR := Rp_so we fi
  obtain ⟨Z1, hZ1⟩ := (RelPri.start (it := it) (we := we) (gr := gr) (fi := fi) (k := k) (X := fun _ => False) (fun _ h => h) z).all h0 hk (fun _ h => h.elim) hX0 (fun _ _ h => h.elim)
  obtain ⟨Z2, hZ2⟩ := hZ1.all h1 hk (fun x h => h.elim (fun h => h.elim) (fun h => hX0 x (h0.1.2.2.1 x h))) hX1 (fun x y h h2 => h.elim (fun h => h.elim) (fun h => hd x y (h0.1.2.2.1 x h) h2))
  refine ⟨Z2, hZ2.mono (Top.union hR h0.1 h1.1 (hZ2.1.congr (fun x => ?_)))⟩
  simp
theorem RelPri.sampled {it we gr fi : Nat → Int32} {k : Nat} {X : Nat → Prop} {T : List Nat} {q : PriT} (h : RelPri it we gr fi k X T q) (hk : k ≤ 16) : priSampled q = nI (min k T.length) := by
  have := h.1.2.1
  unfold priSampled
  rw [h.2.1, h.2.2.1, nI_min (by omega) (by omega)]
theorem shlG {a k p : Nat} {y : Int64} (hy : y.toBitVec.smod 64 = BitVec.ofNat 64 k) (hk : k < 64) (hp : 2 ^ k = p) (ha : a < 2 ^ 64) : lN a <<< y = lN (a * p) := by
  subst hp
  apply Int64.toBitVec_inj.mp
  rw [Int64.toBitVec_shiftLeft, hy]
  apply BitVec.eq_of_toNat_eq
  have hb : (lN a).toBitVec.toNat = a := Nat.mod_eq_of_lt ha
  have hk' : (BitVec.ofNat 64 k).toNat = k := Nat.mod_eq_of_lt (by omega)
  have h : ((lN a).toBitVec <<< BitVec.ofNat 64 k).toNat = (a * 2 ^ k) % 2 ^ 64 := by simp only [BitVec.shiftLeft_eq', BitVec.toNat_shiftLeft, hb, hk', Nat.shiftLeft_eq]
  exact h
theorem shl31 {a : Nat} (ha : a < 2147483648) : (nI a).toInt64 <<< ((31 : Int32).toInt64 &&& 63) = lN (a * 2147483648) := by
  rw [nI_l (by omega)]
  exact shlG (k := 31) (by decide +kernel) (by decide) (by decide) (by omega)
/-- the threshold, of the place behind the sample -/
def thr (we fi : Nat → Int32) (x : Nat) : Int64 := (we x).toInt64 * 2147483648 / ((fi x).toInt64 + 1)
theorem RelPri.bound {it we gr fi : Nat → Int32} {k : Nat} {X : Nat → Prop} {T : List Nat} {q : PriT} (h : RelPri it we gr fi k X T q) (hk : k ≤ 16) (hX : ∀ x, X x → VP we fi x) : priBound q = match T[k]? with | some x => thr we fi x | none => 0 := by
  have hlm := h.1.2.1
  unfold priBound
  rw [h.2.1, h.2.2.1]
  by_cases c : k < T.length
  · obtain ⟨x, hx⟩ : ∃ x, T[k]? = some x := ⟨_, List.getElem?_eq_getElem c⟩
    obtain ⟨-, e2, -, e4⟩ := h.2.2.2 k x hx
    obtain ⟨⟨a, a1, a2, ea⟩, b, b1, eb⟩ := hX x (h.1.2.2.1 x (List.mem_of_getElem? hx))
    rw [if_pos ((nI_ltI (by omega) (by omega)).mpr c), hx, at_nI (by omega) (by decide), at_nI (by omega) (by decide), e2, e4]
    show quo_ ((we x).toInt64 <<< ((31 : Int32).toInt64 &&& 63)) ((fi x).toInt64 + 1) = thr we fi x
    unfold thr quo_
    rw [ea, eb, shl31 (by omega), nI_l (n := b) (by omega), nI_l (n := a) (by omega), lN_1, if_neg]
    · show _ = lN a * lN 2147483648 / _
      rw [lN_mul]
    · rw [lg_cmp_le, show (0 : Int64) = lN 0 from rfl, pk_lLE (by omega) (by omega)]
      omega
  · rw [if_neg (fun hh => c ((nI_ltI (by omega) (by omega)).mp hh)), List.getElem?_eq_none (by omega)]
/-! the reference: which offers there are -/
def XS (n0 n1 st : Nat) (x : Nat) : Bool := decide ((st ≠ 1 ∧ x < n0) ∨ (st ≠ 0 ∧ 300 ≤ x ∧ x < 300 + n1))
theorem XS_iff {n0 n1 st x : Nat} : XS n0 n1 st x = true ↔ (st ≠ 1 ∧ x < n0) ∨ (st ≠ 0 ∧ 300 ≤ x ∧ x < 300 + n1) := by
  unfold XS
  exact decide_eq_true_iff
def MC (many : Nat → Int32) (n0 n1 : Nat) : Prop := many 0 = nI n0 ∧ many 1 = nI n1 ∧ n0 ≤ 300 ∧ n1 ≤ 300
theorem isof {many : Nat → Int32} {n0 n1 st x : Nat} (h : MC many n0 n1) (hs : st ≤ 2) (hx : x < 600) : mIsOf many (nI st) (nI x) = if XS n0 n1 st x = true then 1 else 0 := by
  obtain ⟨h0, h1, l0, l1⟩ := h
  have e1 : nI x / 300 = nI (x / 300) := nI_div (a := x) (b := 300) (by omega) (by decide)
  have e2 : nI x - nI x / 300 * 300 = nI (x % 300) := nI_mod (a := x) (b := 300) (by omega) (by decide)
  have key : (if many (nI x / 300).toNatClampNeg ≤ nI x - nI x / 300 * 300 then (0 : Int32) else 1) = if (x < 300 ∧ x < n0) ∨ (300 ≤ x ∧ x < 300 + n1) then 1 else 0 := by
    rw [e2, e1, nI_clamp (by omega)]
    rcases Nat.lt_or_ge x 300 with q | q
    · rw [show x / 300 = 0 by omega, h0]
      by_cases c : n0 ≤ x % 300
      · rw [if_pos ((nI_leI (by omega) (by omega)).mpr c), if_neg (by omega)]
      · rw [if_neg (fun hh => c ((nI_leI (by omega) (by omega)).mp hh)), if_pos (by omega)]
    · rw [show x / 300 = 1 by omega, h1]
      by_cases c : n1 ≤ x % 300
      · rw [if_pos ((nI_leI (by omega) (by omega)).mpr c), if_neg (by omega)]
      · rw [if_neg (fun hh => c ((nI_leI (by omega) (by omega)).mp hh)), if_pos (by omega)]
  unfold mIsOf
  rw [key]
  have g : XS n0 n1 st x = true ↔ _ := XS_iff
  by_cases s2 : st = 2
  · subst s2
    rw [if_pos (show nI 2 = 2 from rfl)]
    by_cases c : (x < 300 ∧ x < n0) ∨ (300 ≤ x ∧ x < 300 + n1)
    · rw [if_pos c, if_pos (g.mpr (by omega))]
    · rw [if_neg c, if_neg (fun hh => c (by have := g.mp hh; omega))]
  · rw [if_neg (show ¬ nI st = 2 from fun hh => s2 ((nI_eq (by omega) (by decide)).mp hh)), e1]
    by_cases s3 : st = x / 300
    · rw [if_pos (by rw [s3])]
      by_cases c : (x < 300 ∧ x < n0) ∨ (300 ≤ x ∧ x < 300 + n1)
      · rw [if_pos c, if_pos (g.mpr (by omega))]
      · rw [if_neg c, if_neg (fun hh => c (by have := g.mp hh; omega))]
    · rw [if_neg (fun hh => s3 ((nI_eq (by omega) (by omega)).mp hh)), if_neg (fun hh => by have := g.mp hh; omega)]
theorem isof0 {many : Nat → Int32} {n0 n1 st x : Nat} (h : MC many n0 n1) (hs : st ≤ 2) (hx : x < 600) : mIsOf many (nI st) (nI x) = 0 ↔ ¬ XS n0 n1 st x = true := by
  rw [isof h hs hx]
  by_cases c : XS n0 n1 st x = true
  · rw [if_pos c]
    exact ⟨fun hh => absurd hh (by decide), fun hh => absurd c hh⟩
  · rw [if_neg c]
    exact ⟨fun _ => c, fun _ => rfl⟩
/-- how many there are -/
def allN (n0 n1 st : Nat) : Nat := if st = 2 then n0 + n1 else if st = 0 then n0 else n1
theorem cnt_XS {n0 n1 st : Nat} (h0 : n0 ≤ 300) (h1 : n1 ≤ 300) (hs : st ≤ 2) : cnt (XS n0 n1 st) 600 = allN n0 n1 st := by
  have hl : ∀ N, N ≤ 300 → cnt (XS n0 n1 st) N = if st = 1 then 0 else min N n0 := by
    intro N
    induction N with
    | zero => intro _; rw [cnt_0]; split <;> simp
    | succ N ih =>
      intro hN
      rw [cnt_s, ih (by omega)]
      by_cases c : XS n0 n1 st N = true
      · have := XS_iff.mp c
        rw [if_pos c, if_neg (by omega), if_neg (by omega)]
        omega
      · rw [if_neg c]
        have : ¬ _ := fun hh => c (XS_iff.mpr hh)
        by_cases s1 : st = 1
        · rw [if_pos s1, if_pos s1]
        · rw [if_neg s1, if_neg s1]
          omega
  have hu : ∀ N, N ≤ 300 → cnt (XS n0 n1 st) (300 + N) = (if st = 1 then 0 else min 300 n0) + (if st = 0 then 0 else min N n1) := by
    intro N
    induction N with
    | zero =>
      intro _
      rw [Nat.add_zero, hl 300 (Nat.le_refl _), Nat.zero_min]
      split <;> split <;> simp
    | succ N ih =>
      intro hN
      rw [← Nat.add_assoc, cnt_s, ih (by omega)]
      by_cases c : XS n0 n1 st (300 + N) = true
      · have := XS_iff.mp c
        rw [if_pos c]
        by_cases s0 : st = 0
        · omega
        · rw [if_neg s0, if_neg s0]
          omega
      · rw [if_neg c]
        have : ¬ _ := fun hh => c (XS_iff.mpr hh)
        by_cases s0 : st = 0
        · rw [if_pos s0, if_pos s0]
        · rw [if_neg s0, if_neg s0]
          omega
  rw [show (600 : Nat) = 300 + 300 from rfl, hu 300 (Nat.le_refl _)]
  unfold allN
  have : st = 0 ∨ st = 1 ∨ st = 2 := by omega
  rcases this with rfl | rfl | rfl <;> simp <;> omega
