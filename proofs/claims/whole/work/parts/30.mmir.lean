/-! the reference: what it holds, what its methods compute -/
abbrev MoT : Type := Int32 × Int32 × Int32 × (Nat → Int32) × (Nat → Int32) × (Nat → Int32) × (Nat → Int32) × (Nat → Int32) × (Nat → Int32) × (Nat → Int32) × (Nat → Int32) × Int32 × Int32
def wMo (G : GT) (ad : Nat → Nat) (o : Nat) (r : MoT) : va_W := [(ad o, .inr (7, [.int r.1, .int r.2.1, .int r.2.2.1, .ref (ad (o+1)), .ref (ad (o+2)), .ref (ad (o+3)), .ref (ad (o+4)), .ref (ad (o+5)), .ref (ad (o+6)), .ref (ad (o+7)), .ref (ad (o+8)), .int r.2.2.2.2.2.2.2.2.2.2.2.1, .int r.2.2.2.2.2.2.2.2.2.2.2.2])),
  (ad (o+1), .inl (G.2.1, 2, .inl r.2.2.2.1)), (ad (o+2), .inl (G.2.1, 600, .inl r.2.2.2.2.1)), (ad (o+3), .inl (G.2.1, 600, .inl r.2.2.2.2.2.1)), (ad (o+4), .inl (G.2.1, 600, .inl r.2.2.2.2.2.2.1)), (ad (o+5), .inl (G.2.1, 600, .inl r.2.2.2.2.2.2.2.1)), (ad (o+6), .inl (G.2.1, 600, .inl r.2.2.2.2.2.2.2.2.1)), (ad (o+7), .inl (G.2.2.1, 600, .inl r.2.2.2.2.2.2.2.2.2.1)), (ad (o+8), .inl (G.2.1, 300, .inl r.2.2.2.2.2.2.2.2.2.2.1))]
theorem fst_Mo (G : GT) (ad : Nat → Nat) (o : Nat) (r z : MoT) : (wMo G ad o r).map Prod.fst = (wMo G ad o z).map Prod.fst := rfl
def zMo : MoT := (0, 4, 8, fun _ => 0, fun _ => 0, fun _ => 0, fun _ => 0, fun _ => 0, fun _ => 0, fun _ => 0, fun _ => 0, 0, 0)
/-- an int of a small range is the number of its value -/
theorem nI_mul {a b : Nat} (h : a * b < 2147483648) (ha : a < 2147483648) (hb : b < 2147483648) : nI a * nI b = nI (a * b) := by
  rw [← Int32.toInt_inj, Int32.toInt_mul, nI_toInt (n := a) (by omega), nI_toInt (n := b) (by omega), nI_toInt (n := a * b) (by omega)]
  have e : (a : Int) * (b : Int) = ((a * b : Nat) : Int) := by simp
  rw [e, Int.bmod_eq_of_le (by omega) (by omega)]
theorem nI_div {a b : Nat} (ha : a < 2147483648) (hb : b < 2147483648) : nI a / nI b = nI (a / b) := by
  have hq : a / b ≤ a := Nat.div_le_self a b
  have e : (a : Int).tdiv (b : Int) = ((a / b : Nat) : Int) := (Int.ofNat_tdiv a b).symm
  have h3 : (nI a / nI b).toInt = ((a / b : Nat) : Int) := by
    rw [Int32.toInt_div, nI_toInt (n := a) (by omega), nI_toInt (n := b) (by omega), e]
    generalize a / b = g at *
    exact Int.bmod_eq_of_le (by omega) (by omega)
  rw [← Int32.toInt_inj, h3, nI_toInt (by omega)]
theorem nI_sub {a b : Nat} (h : b ≤ a) (ha : a < 2147483648) : nI a - nI b = nI (a - b) := by
  rw [← Int32.toInt_inj, Int32.toInt_sub, nI_toInt (n := a) (by omega), nI_toInt (n := b) (by omega), nI_toInt (n := a - b) (by omega)]
  rw [Int.bmod_eq_of_le (by omega) (by omega)]
  omega
theorem nI_mod {a b : Nat} (ha : a < 2147483648) (hb : b < 2147483648) : nI a - nI a / nI b * nI b = nI (a % b) := by
  have h1 : a / b * b ≤ a := Nat.div_mul_le_self a b
  have h2 : a / b ≤ a := Nat.div_le_self a b
  rw [nI_div ha hb, nI_mul (by omega) (by omega) hb, nI_sub h1 ha]
  congr 1
  have := Nat.div_add_mod a b
  rw [Nat.mul_comm] at this
  omega
theorem vp_nI {a n : Nat} (h : a < n) (hn : n < 2147483648) : vp_in (nI a) n := nI_in h hn
/-- the reference's own shape: counts up to 300, a window and a size within the document's bounds -/
def MoI (r : MoT) : Prop := (∀ j, j < 2 → ∃ n, n ≤ 300 ∧ r.2.2.2.1 j = nI n) ∧ (∃ n, 2 ≤ n ∧ n ≤ 16 ∧ r.2.1 = nI n) ∧ ∃ n, 1 ≤ n ∧ n ≤ 64 ∧ r.2.2.1 = nI n
theorem st_two {x : Int32} (h : okA x 0 1) : ∃ j, j < 2 ∧ x = nI j := by
  obtain ⟨j, hj, e⟩ := nI_of2 (n := 1) rfl h.1 h.2
  exact ⟨j, by omega, e⟩
theorem st_three {x : Int32} (h : okA x 0 2) : ∃ j, j < 3 ∧ x = nI j := by
  obtain ⟨j, hj, e⟩ := nI_of2 (n := 2) rfl h.1 h.2
  exact ⟨j, by omega, e⟩
theorem nlt_of_le {a b : Int32} (h : a ≤ b) : ¬ b < a := by
  rw [Int32.le_iff_toInt_le] at h
  rw [Int32.lt_iff_toInt_lt]
  omega
theorem le_of_nlt {a b : Int32} (h : ¬ b < a) : a ≤ b := by
  rw [Int32.lt_iff_toInt_lt] at h
  rw [Int32.le_iff_toInt_le]
  omega
