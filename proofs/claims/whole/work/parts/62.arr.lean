/-! rows: reading, writing, putting between -/
theorem at_nI {n j : Nat} {f : Nat → Int32} (h : j < n) (hn : n < 2147483648) : at_ n f (nI j) = f j := by
  unfold at_
  rw [if_neg (nI_pos (by omega)), if_neg (show ¬ Int32.ofNat n ≤ nI j from nI_ge h (by omega)), nI_clamp (by omega)]
theorem put_nI {n j : Nat} {f : Nat → Int32} {v : Int32} (h : j < n) (hn : n < 2147483648) : put_ n f (nI j) v = upd f j v := by
  unfold put_
  rw [if_neg (nI_pos (by omega)), if_neg (show ¬ Int32.ofNat n ≤ nI j from nI_ge h (by omega)), nI_clamp (by omega)]
theorem rem_nI {a b : Nat} (ha : a < 2147483648) (h0 : 0 < b) (hb : b < 2147483648) : rem_ (nI a) (nI b) = nI (a % b) := by
  unfold rem_
  rw [if_neg (nI_nle h0 (by omega)), pk_rem (by omega) h0 (by omega)]
theorem insL_nI {n p : Nat} (hn : n < 2147483648) : ∀ (fu d : Nat) (f : Nat → Int32), d < n → p ≤ d → d - p < fu → ∀ j, insL n (nI p) fu (nI d) f j = if p < j ∧ j ≤ d then f (j - 1) else f j := by
  intro fu
  induction fu with
  | zero => intro d f _ _ h; exact absurd h (Nat.not_lt_zero _)
  | succ fu ih =>
    intro d f hd hp hf j
    unfold insL
    by_cases c : nI d ≤ nI p
    · rw [if_pos c]
      rw [nI_leI (by omega) (by omega)] at c
      rw [if_neg (by omega)]
    · rw [if_neg c]
      rw [nI_leI (by omega) (by omega)] at c
      obtain ⟨e, rfl⟩ : ∃ e, d = e + 1 := ⟨d - 1, by omega⟩
      rw [pk_m1, nI_pred, at_nI (by omega) hn, put_nI hd hn, ih e _ (by omega) (by omega) (by omega)]
      by_cases c2 : p < j ∧ j ≤ e
      · rw [if_pos c2, if_pos (by omega), pk_un (by omega)]
      · rw [if_neg c2]
        by_cases c3 : j = e + 1
        · subst c3
          rw [pk_us, if_pos (by omega)]
          rfl
        · rw [pk_un c3, if_neg (by omega)]
theorem ins_nI {n p e : Nat} {f : Nat → Int32} {v : Int32} (hn : n < 2147483648) (hp : p < e) (he : e ≤ n) (j : Nat) : ins_ n f (nI p) (nI e) v j = if j < p then f j else if j = p then v else if j < e then f (j - 1) else f j := by
  obtain ⟨d, rfl⟩ : ∃ d, e = d + 1 := ⟨e - 1, by omega⟩
  unfold ins_
  rw [nI_pred, put_nI (by omega) hn]
  have hf : d - p < ((nI d).toInt - (nI p).toInt).toNat + 1 := by
    rw [nI_toInt (by omega), nI_toInt (by omega)]
    omega
  by_cases c : j = p
  · subst c
    rw [pk_us, if_neg (by omega), if_pos rfl]
  · rw [pk_un c, insL_nI hn _ d f (by omega) (by omega) hf]
    by_cases c1 : j < p
    · rw [if_neg (by omega), if_pos c1]
    · rw [if_neg c1, if_neg c]
      by_cases c2 : j < d + 1
      · rw [if_pos (by omega), if_pos c2]
      · rw [if_neg (by omega), if_neg c2]
theorem tk_get {T : List Nat} {y p m : Nat} (hp : p ≤ T.length) (j : Nat) : ((T.take p ++ y :: T.drop p).take m)[j]? = if j < m then (if j < p then T[j]? else if j = p then some y else T[j - 1]?) else none := by
  rw [List.getElem?_take]
  by_cases c : j < m
  · rw [if_pos c, if_pos c]
    by_cases c1 : j < p
    · rw [if_pos c1, List.getElem?_append_left (by rw [List.length_take]; omega), List.getElem?_take, if_pos c1]
    · rw [if_neg c1, List.getElem?_append_right (by rw [List.length_take]; omega), List.length_take, Nat.min_eq_left hp]
      by_cases c2 : j = p
      · subst c2
        rw [if_pos rfl, Nat.sub_self]
        rfl
      · rw [if_neg c2]
        obtain ⟨i, hi⟩ : ∃ i, j - p = i + 1 := ⟨j - p - 1, by omega⟩
        rw [hi, List.getElem?_cons_succ, List.getElem?_drop]
        congr 1
        omega
  · rw [if_neg c, if_neg c]
theorem tk_len {T : List Nat} {y p m : Nat} (hp : p ≤ T.length) : ((T.take p ++ y :: T.drop p).take m).length = min m (T.length + 1) := by
  rw [List.length_take, List.length_append, List.length_cons, List.length_take, List.length_drop]
  omega
theorem nI_min {a b : Nat} (ha : a < 2147483648) (hb : b < 2147483648) : (if nI a < nI b then nI a else nI b) = nI (min a b) := by
  by_cases c : a < b
  · rw [if_pos ((nI_ltI (by omega) (by omega)).mpr c), Nat.min_eq_left (by omega)]
  · rw [if_neg (fun h => c ((nI_ltI (by omega) (by omega)).mp h)), Nat.min_eq_right (by omega)]
