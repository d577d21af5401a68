/-! reservoirs -/
def oI (f : Option Nat) : Int32 := match f with | some z => nI z | none => -1
def rsC (M : Nat → Bool) (base : Nat) : Nat → Nat
  | 0 => 0
  | n + 1 => rsC M base n + if M (base + n) = true then 1 else 0
def rsI (fi : Nat → Int32) (M : Nat → Bool) (base k n : Nat) : Nat := if rsC M base n + 1 ≤ k then rsC M base n else (fi (base + n)).toNatClampNeg % (rsC M base n + 1)
def rsF (fi : Nat → Int32) (M : Nat → Bool) (base k : Nat) (sl : Int32) : Nat → Option Nat
  | 0 => none
  | n + 1 => if M (base + n) = true then (if nI (rsI fi M base k n) = sl ∧ rsI fi M base k n < k then some (base + n) else rsF fi M base k sl n) else rsF fi M base k sl n
theorem rsC_le (M : Nat → Bool) (base n : Nat) : rsC M base n ≤ n := by
  induction n with
  | zero => exact Nat.le_refl 0
  | succ n ih =>
    unfold rsC
    split <;> omega
theorem rsI_lt (fi : Nat → Int32) (M : Nat → Bool) (base k n : Nat) : rsI fi M base k n < rsC M base n + 1 := by
  unfold rsI
  split
  · omega
  · exact Nat.mod_lt _ (Nat.succ_pos _)
theorem rsF_rng {fi : Nat → Int32} {M : Nat → Bool} {base k : Nat} {sl : Int32} : ∀ {n z : Nat}, rsF fi M base k sl n = some z → base ≤ z ∧ z < base + n ∧ M z = true := by
  intro n
  induction n with
  | zero => intro z h; cases h
  | succ n ih =>
    intro z h
    unfold rsF at h
    split at h
    · rename_i hm
      split at h
      · cases h
        exact ⟨by omega, by omega, hm⟩
      · have := ih h
        exact ⟨this.1, by omega, this.2.2⟩
    · have := ih h
      exact ⟨this.1, by omega, this.2.2⟩
/-- the slots that are filled -/
theorem rsF_some {fi : Nat → Int32} {M : Nat → Bool} {base k : Nat} {sl : Int32} : ∀ {n : Nat}, (∃ z, rsF fi M base k sl n = some z) ↔ ∃ s, s < k ∧ s < rsC M base n ∧ sl = nI s := by
  intro n
  induction n with
  | zero =>
    constructor
    · rintro ⟨z, h⟩
      cases h
    · rintro ⟨s, -, h, -⟩
      exact absurd h (Nat.not_lt_zero _)
  | succ n ih =>
    unfold rsF rsC
    by_cases hm : M (base + n) = true
    · rw [if_pos hm, if_pos hm]
      have hlt := rsI_lt fi M base k n
      by_cases hi : nI (rsI fi M base k n) = sl ∧ rsI fi M base k n < k
      · rw [if_pos hi]
        exact ⟨fun _ => ⟨_, hi.2, hlt, hi.1.symm⟩, fun _ => ⟨_, rfl⟩⟩
      · rw [if_neg hi, ih]
        constructor
        · rintro ⟨s, h1, h2, h3⟩
          exact ⟨s, h1, by omega, h3⟩
        · rintro ⟨s, h1, h2, h3⟩
          rcases Nat.lt_or_ge s (rsC M base n) with q | q
          · exact ⟨s, h1, q, h3⟩
          · exfalso
            have e : s = rsC M base n := by omega
            have : rsI fi M base k n = rsC M base n := by
              unfold rsI
              rw [if_pos (by omega)]
            exact hi ⟨by rw [this, ← e, h3], by omega⟩
    · rw [if_neg hm, if_neg hm, Nat.add_zero]
      exact ih
def MG (gr : Nat → Int32) (g : Int32) (a : Nat) : Bool := decide (g = (-1) ∨ gr a = g)
theorem MG_iff {gr : Nat → Int32} {g : Int32} {a : Nat} : MG gr g a = true ↔ g = (-1) ∨ gr a = g := by
  unfold MG
  exact decide_eq_true_iff
/-- the reference's walk through a stream's offers -/
theorem slL {gr fi : Nat → Int32} {base k N : Nat} {g sl : Int32} (hk : k ≤ 16) (hb : base + N ≤ 600) (hV : ∀ a, base ≤ a → a < base + N → ∃ b, b < 2147483648 ∧ fi a = nI b) : ∀ (fu j : Nat), j ≤ N → N - j < fu →
    mSlL (nI k) gr fi g sl (nI (base + N)) fu (oI (rsF fi (MG gr g) base k sl j)) (nI (rsC (MG gr g) base j)) (nI (base + j)) = oI (rsF fi (MG gr g) base k sl N) := by
  intro fu
  induction fu with
  | zero => intro j _ h; exact absurd h (Nat.not_lt_zero _)
  | succ fu ih =>
    intro j hj hf
    unfold mSlL
    by_cases c : j = N
    · subst c
      rw [if_pos (Int32.le_refl _)]
    · have hcl := rsC_le (MG gr g) base j
      rw [if_neg (nI_ge (by omega) (by omega)), nI_clamp (n := base + j) (by omega), nI_1 (base + j), nI_1, nI_pred]
      have hih := ih (j + 1) (by omega) (by omega)
      obtain ⟨b, hb1, eb⟩ := hV (base + j) (by omega) (by omega)
      have hrem : nI b - nI b / nI (rsC (MG gr g) base j + 1) * nI (rsC (MG gr g) base j + 1) = nI (b % (rsC (MG gr g) base j + 1)) := pk_rem (by omega) (by omega) (by omega)
      have step : MG gr g (base + j) = true →
          (if nI k < nI (rsC (MG gr g) base j + 1) then
            (if fi (base + j) - fi (base + j) / nI (rsC (MG gr g) base j + 1) * nI (rsC (MG gr g) base j + 1) = sl then
              (if nI k ≤ fi (base + j) - fi (base + j) / nI (rsC (MG gr g) base j + 1) * nI (rsC (MG gr g) base j + 1) then mSlL (nI k) gr fi g sl (nI (base + N)) fu (oI (rsF fi (MG gr g) base k sl j)) (nI (rsC (MG gr g) base j + 1)) (nI (base + j + 1))
                else mSlL (nI k) gr fi g sl (nI (base + N)) fu (nI (base + j)) (nI (rsC (MG gr g) base j + 1)) (nI (base + j + 1)))
              else mSlL (nI k) gr fi g sl (nI (base + N)) fu (oI (rsF fi (MG gr g) base k sl j)) (nI (rsC (MG gr g) base j + 1)) (nI (base + j + 1)))
          else
            (if nI (rsC (MG gr g) base j) = sl then
              (if nI k ≤ nI (rsC (MG gr g) base j) then mSlL (nI k) gr fi g sl (nI (base + N)) fu (oI (rsF fi (MG gr g) base k sl j)) (nI (rsC (MG gr g) base j + 1)) (nI (base + j + 1))
                else mSlL (nI k) gr fi g sl (nI (base + N)) fu (nI (base + j)) (nI (rsC (MG gr g) base j + 1)) (nI (base + j + 1)))
              else mSlL (nI k) gr fi g sl (nI (base + N)) fu (oI (rsF fi (MG gr g) base k sl j)) (nI (rsC (MG gr g) base j + 1)) (nI (base + j + 1)))) = oI (rsF fi (MG gr g) base k sl N) := by
        intro hm
        have e1 : rsC (MG gr g) base (j + 1) = rsC (MG gr g) base j + 1 := by
          show rsC (MG gr g) base j + (if MG gr g (base + j) = true then 1 else 0) = _
          rw [if_pos hm]
        have e2 : rsF fi (MG gr g) base k sl (j + 1) = if nI (rsI fi (MG gr g) base k j) = sl ∧ rsI fi (MG gr g) base k j < k then some (base + j) else rsF fi (MG gr g) base k sl j := by
          show (if MG gr g (base + j) = true then _ else _) = _
          rw [if_pos hm]
        have hI : rsI fi (MG gr g) base k j < 2147483648 := by have := rsI_lt fi (MG gr g) base k j; omega
        rw [e1, e2, ← Nat.add_assoc] at hih
        have fin : ∀ x : Nat, rsI fi (MG gr g) base k j = x →
            (if nI x = sl then (if nI k ≤ nI x then mSlL (nI k) gr fi g sl (nI (base + N)) fu (oI (rsF fi (MG gr g) base k sl j)) (nI (rsC (MG gr g) base j + 1)) (nI (base + j + 1))
                else mSlL (nI k) gr fi g sl (nI (base + N)) fu (nI (base + j)) (nI (rsC (MG gr g) base j + 1)) (nI (base + j + 1)))
              else mSlL (nI k) gr fi g sl (nI (base + N)) fu (oI (rsF fi (MG gr g) base k sl j)) (nI (rsC (MG gr g) base j + 1)) (nI (base + j + 1))) = oI (rsF fi (MG gr g) base k sl N) := by
          intro x hx
          rw [hx] at hih hI
          by_cases c1 : nI x = sl
          · rw [if_pos c1]
            by_cases c2 : x < k
            · rw [if_neg (nI_ge c2 (by omega))]
              rw [if_pos ⟨c1, c2⟩] at hih
              exact hih
            · rw [if_pos (nI_le (by omega) (by omega))]
              rw [if_neg (fun h => c2 h.2)] at hih
              exact hih
          · rw [if_neg c1]
            rw [if_neg (fun h => c1 h.1)] at hih
            exact hih
        by_cases c1 : rsC (MG gr g) base j + 1 ≤ k
        · rw [if_neg (nI_nlt c1 (by omega))]
          exact fin _ (by unfold rsI; rw [if_pos c1])
        · rw [if_pos (nI_lt (by omega) (by omega)), eb, hrem]
          exact fin _ (by unfold rsI; rw [if_neg c1, eb, nI_clamp (by omega)])
      by_cases cg : g = (-1)
      · rw [if_pos cg]
        exact step (MG_iff.mpr (Or.inl cg))
      · rw [if_neg cg]
        by_cases cm : gr (base + j) = g
        · rw [if_pos cm]
          exact step (MG_iff.mpr (Or.inr cm))
        · rw [if_neg cm]
          have hm : ¬ MG gr g (base + j) = true := fun h => (MG_iff.mp h).elim cg cm
          have e1 : rsC (MG gr g) base (j + 1) = rsC (MG gr g) base j := by
            show rsC (MG gr g) base j + (if MG gr g (base + j) = true then 1 else 0) = _
            rw [if_neg hm]
            rfl
          have e2 : rsF fi (MG gr g) base k sl (j + 1) = rsF fi (MG gr g) base k sl j := by
            show (if MG gr g (base + j) = true then _ else _) = _
            rw [if_neg hm]
          rw [e1, e2, ← Nat.add_assoc] at hih
          exact hih
/-! the class's reservoirs -/
def RelRes (fi it : Nat → Int32) (M : Nat → Bool) (base k n : Nat) (r : ResT) : Prop :=
  r.1 = nI k ∧ r.2.1 = nI (rsC M base n) ∧ ∀ s z, s < k → rsF fi M base k (nI s) n = some z → r.2.2.1 s = it z ∧ r.2.2.2 s = nI (z % 300 + 1)
theorem RelRes.start {fi it : Nat → Int32} {M : Nat → Bool} {base k : Nat} (r : ResT) : RelRes fi it M base k 0 (resStart (nI k) r) :=
  ⟨rfl, nI_0.symm, fun s z _ h => by cases h⟩
theorem RelRes.skip {fi it : Nat → Int32} {M : Nat → Bool} {base k n : Nat} {r : ResT} (h : RelRes fi it M base k n r) (hm : ¬ M (base + n) = true) : RelRes fi it M base k (n + 1) r := by
  refine ⟨h.1, ?_, fun s z hs hz => h.2.2 s z hs ?_⟩
  · rw [h.2.1]
    show _ = nI (rsC M base n + if M (base + n) = true then 1 else 0)
    rw [if_neg hm]
    rfl
  · have e2 : rsF fi M base k (nI s) (n + 1) = rsF fi M base k (nI s) n := by
      show (if M (base + n) = true then _ else _) = _
      rw [if_neg hm]
    rw [← e2]
    exact hz
theorem RelRes.give {fi it : Nat → Int32} {M : Nat → Bool} {base k n : Nat} {r : ResT} (h : RelRes fi it M base k n r) (hk : k ≤ 16) (hn : n < 300) (hbase : base % 300 = 0) (hm : M (base + n) = true) (hV : ∃ b, b < 2147483648 ∧ fi (base + n) = nI b) :
    RelRes fi it M base k (n + 1) (resGive r (it (base + n)) (nI (n + 1)) (fi (base + n))) := by
  obtain ⟨h1, h2, h3⟩ := h
  obtain ⟨b, hb, eb⟩ := hV
  have hcl := rsC_le M base n
  have e1 : rsC M base (n + 1) = rsC M base n + 1 := by
    show rsC M base n + (if M (base + n) = true then 1 else 0) = _
    rw [if_pos hm]
  have e2 : ∀ sl, rsF fi M base k sl (n + 1) = if nI (rsI fi M base k n) = sl ∧ rsI fi M base k n < k then some (base + n) else rsF fi M base k sl n := by
    intro sl
    show (if M (base + n) = true then _ else _) = _
    rw [if_pos hm]
  have hI := rsI_lt fi M base k n
  have hpos : (base + n) % 300 + 1 = n + 1 := by omega
  have fin : ∀ x : Nat, rsI fi M base k n = x → RelRes fi it M base k (n + 1) (if nI k ≤ nI x then (r.1, nI (rsC M base n + 1), r.2.2.1, r.2.2.2) else (r.1, nI (rsC M base n + 1), put_ 16 r.2.2.1 (nI x) (it (base + n)), put_ 16 r.2.2.2 (nI x) (nI (n + 1)))) := by
    intro x hx
    rw [hx] at e2 hI
    by_cases c : x < k
    · rw [if_neg (nI_ge c (by omega)), put_nI (by omega) (by decide), put_nI (by omega) (by decide)]
      refine ⟨h1, by rw [e1], fun s z hs hz => ?_⟩
      rw [e2] at hz
      show upd r.2.2.1 x (it (base + n)) s = it z ∧ upd r.2.2.2 x (nI (n + 1)) s = nI (z % 300 + 1)
      by_cases cs : s = x
      · subst cs
        rw [if_pos ⟨rfl, c⟩] at hz
        cases hz
        rw [pk_us, pk_us, hpos]
        exact ⟨rfl, rfl⟩
      · rw [if_neg (fun hh => cs ((nI_eq (by omega) (by omega)).mp hh.1).symm)] at hz
        rw [pk_un cs, pk_un cs]
        exact h3 s z hs hz
    · rw [if_pos (nI_le (by omega) (by omega))]
      refine ⟨h1, by rw [e1], fun s z hs hz => ?_⟩
      rw [e2, if_neg (fun hh => c hh.2)] at hz
      exact h3 s z hs hz
  unfold resGive
  rw [sld_eq, h2, nI_1, nI_pred]
  rw [h1] at fin ⊢
  by_cases c1 : rsC M base n + 1 ≤ k
  · rw [if_neg (nI_nlt c1 (by omega))]
    exact fin _ (by unfold rsI; rw [if_pos c1])
  · rw [if_pos (nI_lt (by omega) (by omega)), eb, rem_nI (by omega) (by omega) (by omega)]
    exact fin _ (by unfold rsI; rw [if_neg c1, eb, nI_clamp (by omega)])
theorem RelRes.filled {fi it : Nat → Int32} {M : Nat → Bool} {base k n : Nat} {r : ResT} (h : RelRes fi it M base k n r) (hk : k ≤ 16) (hn : n ≤ 300) : resFilled r = nI (min k (rsC M base n)) := by
  have := rsC_le M base n
  unfold resFilled
  rw [h.1, h.2.1, nI_min (by omega) (by omega)]
theorem RelRes.okp {fi it : Nat → Int32} {M : Nat → Bool} {base k n : Nat} {r : ResT} {sl : Int32} (h : RelRes fi it M base k n r) (hk : k ≤ 16) (hn : n ≤ 300) : okP sl (resFilled r) ↔ ∃ z, rsF fi M base k sl n = some z := by
  have := rsC_le M base n
  rw [h.filled hk hn, rsF_some]
  constructor
  · intro hs
    obtain ⟨p, hp, rfl⟩ := okP_nI (by omega) hs
    exact ⟨p, by omega, by omega, rfl⟩
  · rintro ⟨s, h1, h2, rfl⟩
    exact ⟨nI_pos (by omega), nI_lt (by omega) (by omega)⟩
theorem RelRes.at {fi it : Nat → Int32} {M : Nat → Bool} {base k n : Nat} {r : ResT} {sl : Int32} (h : RelRes fi it M base k n r) (hk : k ≤ 16) (hn : n ≤ 300) (hb : base ≤ 300) (hs : okP sl (resFilled r)) : ∃ z, z < 600 ∧ oI (rsF fi M base k sl n) = nI z ∧ at_ 16 r.2.2.1 sl = it z ∧ at_ 16 r.2.2.2 sl = nI (z % 300 + 1) := by
  have := rsC_le M base n
  obtain ⟨z, hz⟩ := (h.okp hk hn).mp hs
  obtain ⟨s, h1, h2, rfl⟩ := rsF_some.mp ⟨z, hz⟩
  have hr := rsF_rng hz
  obtain ⟨a1, a2⟩ := h.2.2 s z h1 hz
  exact ⟨z, by omega, by rw [hz]; rfl, by rw [at_nI (by omega) (by decide), a1], by rw [at_nI (by omega) (by decide), a2]⟩
