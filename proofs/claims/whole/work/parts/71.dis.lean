/-! what is asked of the distinct sample: class and reference -/
section
variable {it many w : Nat → Int32} {n0 n1 st k : Nat} {T : List Nat} {q : DisT}
def DQ (it many : Nat → Int32) (n0 n1 st k : Nat) (T : List Nat) (q : DisT) : Prop :=
  RelDis k (Xv it (XS n0 n1 st)) (Cv it (XS n0 n1 st)) T q ∧ MC many n0 n1 ∧ st ≤ 2 ∧ 2 ≤ k ∧ k ≤ 16 ∧ VI it (XS n0 n1 st)
theorem DQ.idx (h : DQ it many n0 n1 st k T q) : ∃ I : List Nat, I.map (vl it) = T ∧ Top (Ri it) k (fun a => a < 600 ∧ New it (XS n0 n1 st) a = true) I := idx_ex h.2.2.2.2.2 h.1.1
theorem DQ.len (h : DQ it many n0 n1 st k T q) : T.length = min k (cnt (New it (XS n0 n1 st)) 600) := by
  obtain ⟨I, h1, h2⟩ := h.idx
  rw [← h1, List.length_map]
  exact h2.len (Ri_so it) (fun x hx => hx.1) (fun x hx => ⟨fun hh => ⟨hx, hh⟩, fun hh => hh.2⟩)
theorem DQ.dn (h : DQ it many n0 n1 st k T q) : mDn many it (nI k) (nI st) w = nI T.length := by
  rw [dn_spec h.2.1 h.2.2.1 w h.2.2.2.2.1, h.len]
theorem DQ.size (h : DQ it many n0 n1 st k T q) : q.2.1 = mDn many it (nI k) (nI st) w := by rw [h.dn, h.1.2.2.1]
theorem DQ.place (h : DQ it many n0 n1 st k T q) {sl : Int32} : okP sl q.2.1 ↔ okA sl 0 (mDn many it (nI k) (nI st) w - 1) := by
  have := h.1.1.2.1
  have := h.2.2.2.2.1
  rw [h.dn, h.1.2.2.1, okPA (by omega)]
theorem DQ.at (h : DQ it many n0 n1 st k T q) {p : Nat} (hp : p < T.length) : ∃ z, z < 600 ∧ New it (XS n0 n1 st) z = true ∧ T[p]? = some (vl it z) ∧ mHs (mDs many it (nI st) w).2 it (nI p) = nI z := by
  obtain ⟨I, h1, h2⟩ := h.idx
  have hl : I.length = T.length := by rw [← h1, List.length_map]
  have hk := h.1.1.2.1
  obtain ⟨z, hz⟩ : ∃ z, I[p]? = some z := ⟨_, List.getElem?_eq_getElem (by omega)⟩
  have hz2 := h2.2.2.1 z (List.mem_of_getElem? hz)
  refine ⟨z, hz2.1, hz2.2, ?_, ?_⟩
  · rw [← h1, List.getElem?_map, hz]
    rfl
  · rw [hs_spec h.2.2.2.2.2 (ds_spec h.2.1 h.2.2.1 w).2 h2 (by omega) h.2.2.2.2.1, plc_some hz]
theorem DQ.sl (h : DQ it many n0 n1 st k T q) {sl : Int32} (hs : okP sl q.2.1) : ∃ p, p < T.length ∧ sl = nI p := by
  have := h.1.1.2.1
  have := h.2.2.2.2.1
  rw [h.1.2.2.1] at hs
  exact okP_nI (by omega) hs
theorem DQ.found (h : DQ it many n0 n1 st k T q) {sl : Int32} (hs : okP sl q.2.1) : ¬ mHs (mDs many it (nI st) w).2 it sl = (-1) ∧ vp_in (mHs (mDs many it (nI st) w).2 it sl) 600 := by
  obtain ⟨p, hp, rfl⟩ := h.sl hs
  obtain ⟨z, z1, z2, z3, z4⟩ := h.at (w := w) hp
  rw [z4]
  exact ⟨nI_m1ne (by omega), vp_nI z1 (by decide)⟩
theorem DQ.item (h : DQ it many n0 n1 st k T q) {sl : Int32} (hs : okP sl q.2.1) : at_ 16 q.2.2.1 sl = it (mHs (mDs many it (nI st) w).2 it sl).toNatClampNeg := by
  have := h.1.1.2.1
  have := h.2.2.2.2.1
  obtain ⟨p, hp, rfl⟩ := h.sl hs
  obtain ⟨z, z1, z2, z3, z4⟩ := h.at (w := w) hp
  rw [z4, nI_clamp (by omega), at_nI (by omega) (by decide), (h.1.2.2.2 p _ z3).1, ← (h.2.2.2.2.2.val (New_iff.mp z2).1).2]
theorem doL {z : Nat} (hm : MC many n0 n1) (hs : st ≤ 2) (hV : VI it (XS n0 n1 st)) (hz : z < 600) (hzX : XS n0 n1 st z = true) : ∀ (fu b : Nat), b ≤ 600 → 600 - b < fu →
    mDoL many it (nI st) (nI z) fu b (nI (cnt (fun a => XS n0 n1 st a && eqv it (vl it z) a) b)) = nI (cnt (fun a => XS n0 n1 st a && eqv it (vl it z) a) 600) := by
  intro fu
  induction fu with
  | zero => intro b _ h; exact absurd h (Nat.not_lt_zero _)
  | succ fu ih =>
    intro b hb hf
    unfold mDoL
    by_cases c : b = 600
    · rw [if_pos ((lt_600 hb).mpr c), c]
    · rw [if_neg (fun h => c ((lt_600 hb).mp h)), if_neg (nI_m1ne (by omega)), nI_clamp (n := b) (by omega), nI_clamp (n := z) (by omega)]
      have hs1 := cnt_s (fun a => XS n0 n1 st a && eqv it (vl it z) a) b
      have hih := ih (b + 1) (by omega) (by omega)
      by_cases c1 : XS n0 n1 st b = true
      · rw [if_neg (fun h => (isof0 hm hs (by omega)).mp h c1)]
        by_cases c2 : it b = it z
        · rw [if_pos c2, nI_1]
          rw [if_pos (by rw [c1, eqv_iff.mpr (show vl it b = vl it z by show (it b).toNatClampNeg = (it z).toNatClampNeg; rw [c2])]; rfl)] at hs1
          rw [← hs1]
          exact hih
        · rw [if_neg c2, Int32.add_zero]
          rw [if_neg (fun h => c2 (vl_inj hV c1 hzX (eqv_iff.mp (Bool.and_eq_true_iff.mp h).2)))] at hs1
          rw [show cnt (fun a => XS n0 n1 st a && eqv it (vl it z) a) b = cnt (fun a => XS n0 n1 st a && eqv it (vl it z) a) (b + 1) from hs1.symm]
          exact hih
      · rw [if_pos ((isof0 hm hs (by omega)).mpr c1), Int32.add_zero]
        rw [if_neg (fun h => c1 (Bool.and_eq_true_iff.mp h).1)] at hs1
        rw [show cnt (fun a => XS n0 n1 st a && eqv it (vl it z) a) b = cnt (fun a => XS n0 n1 st a && eqv it (vl it z) a) (b + 1) from hs1.symm]
        exact hih
theorem DQ.offers (h : DQ it many n0 n1 st k T q) {sl : Int32} (hs : okP sl q.2.1) : at_ 16 q.2.2.2 sl = mDoL many it (nI st) (mHs (mDs many it (nI st) w).2 it sl) (600 - 0 + 1) 0 0 := by
  have := h.1.1.2.1
  have := h.2.2.2.2.1
  obtain ⟨p, hp, rfl⟩ := h.sl hs
  obtain ⟨z, z1, z2, z3, z4⟩ := h.at (w := w) hp
  have hd := doL (it := it) h.2.1 h.2.2.1 h.2.2.2.2.2 z1 (New_iff.mp z2).1 (600 - 0 + 1) 0 (by omega) (by omega)
  rw [cnt_0, nI_0] at hd
  rw [z4, hd, at_nI (by omega) (by decide), (h.1.2.2.2 p _ z3).2]
  rfl
theorem DQ.full (h : DQ it many n0 n1 st k T q) : nI k ≤ mDn many it (nI k) (nI st) w ↔ T.length = k := by
  have := h.1.1.2.1
  have := h.2.2.2.2.1
  rw [h.dn, nI_leI (by omega) (by omega)]
  omega
theorem DQ.last (h : DQ it many n0 n1 st k T q) (hf : nI k ≤ mDn many it (nI k) (nI st) w) : ∃ z, z < 600 ∧ New it (XS n0 n1 st) z = true ∧ T[k - 1]? = some (vl it z) ∧ mHs (mDs many it (nI st) w).2 it (nI k - 1) = nI z := by
  have h2 := h.2.2.2.1
  have hl := h.full.mp hf
  rw [nI_m1 (by omega)]
  exact h.at (by omega)
theorem DQ.lastOk (h : DQ it many n0 n1 st k T q) (hf : nI k ≤ mDn many it (nI k) (nI st) w) : vp_in (mHs (mDs many it (nI st) w).2 it (nI k - 1)) 600 ∧ ¬ hash_ (it (mHs (mDs many it (nI st) w).2 it (nI k - 1)).toNatClampNeg) = 0 := by
  obtain ⟨z, z1, z2, z3, z4⟩ := h.last hf
  rw [z4]
  refine ⟨vp_nI z1 (by decide), ?_⟩
  have hz := h.2.2.2.2.2.val (New_iff.mp z2).1
  rw [nI_clamp (by omega), hz.2, hash_nI hz.1]
  intro hh
  have := (pk_lEQ (a := hv (vl it z)) (b := 0) (by have := hv_lt (vl it z); omega) (by omega)).mp hh
  have := hv_pos (vl it z)
  omega
theorem DQ.est (h : DQ it many n0 n1 st k T q) : disEst q = if nI k ≤ mDn many it (nI k) (nI st) w then ((nI k).toInt64 - 1) * 4294967296 / hash_ (it (mHs (mDs many it (nI st) w).2 it (nI k - 1)).toNatClampNeg) else (mDn many it (nI k) (nI st) w).toInt64 := by
  have hlm := h.1.1.2.1
  have hk := h.2.2.2.2.1
  have hk2 := h.2.2.2.1
  unfold disEst
  rw [h.1.2.1, h.size (w := w)]
  by_cases c : nI k ≤ mDn many it (nI k) (nI st) w
  · rw [if_pos c, if_pos c]
    obtain ⟨z, z1, z2, z3, z4⟩ := h.last c
    have hz := h.2.2.2.2.2.val (New_iff.mp z2).1
    rw [z4, nI_clamp (n := z) (by omega), nI_m1 (by omega), at_nI (by omega) (by decide), (h.1.2.2.2 _ _ z3).1, hz.2, hash_nI hz.1]
    unfold quo_
    rw [if_neg]
    · congr 2
      rw [nI_l (by omega), nI_l (by omega)]
      exact (lN_sub (a := k) (b := 1) (by omega)).symm
    · rw [lg_cmp_le, show (0 : Int64) = lN 0 from rfl, pk_lLE (by have := hv_lt (vl it z); omega) (by omega)]
      have := hv_pos (vl it z)
      omega
  · rw [if_neg c, if_neg c]
end
