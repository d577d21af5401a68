/-! distinct items: the class's sample of a set of items -/
def hv (v : Nat) : Nat := v * 2654435761 % 4294967296 + 1
theorem hv_inv {v : Nat} (h : v < 4294967296) : (v * 2654435761 % 4294967296) * 244002641 % 4294967296 = v := by
  have e : v * 2654435761 * 244002641 = v + 4294967296 * (v * 150801925) := by
    rw [Nat.mul_assoc, show 2654435761 * 244002641 = 1 + 4294967296 * 150801925 from by decide, Nat.mul_add, Nat.mul_one, ← Nat.mul_assoc, Nat.mul_comm v 4294967296, Nat.mul_assoc]
  rw [Nat.mul_mod, Nat.mod_mod, ← Nat.mul_mod, e, Nat.add_mul_mod_self_left, Nat.mod_eq_of_lt h]
theorem hv_inj {u v : Nat} (hu : u ≤ 1000000) (hw : v ≤ 1000000) (h : hv u = hv v) : u = v := by
  unfold hv at h
  have h1 := hv_inv (v := u) (Nat.lt_of_le_of_lt hu (by decide))
  have h2 := hv_inv (v := v) (Nat.lt_of_le_of_lt hw (by decide))
  have h3 : u * 2654435761 % 4294967296 = v * 2654435761 % 4294967296 := Nat.succ.inj h
  rw [h3] at h1
  exact h1.symm.trans h2
theorem hv_lt (v : Nat) : hv v ≤ 4294967296 := by
  exact Nat.mod_lt (v * 2654435761) (show 0 < 4294967296 by decide)
theorem hv_pos (v : Nat) : 0 < hv v := Nat.succ_pos _
theorem hash_nI {v : Nat} (h : v ≤ 1000000) : hash_ (nI v) = lN (hv v) := by
  unfold hash_ hv
  rw [nI_l (by omega)]
  show lN v * lN 2654435761 - lN v * lN 2654435761 / lN 4294967296 * lN 4294967296 + lN 1 = _
  have hb : v * 2654435761 < 2 ^ 63 := Nat.lt_of_le_of_lt (Nat.mul_le_mul_right 2654435761 h) (by decide)
  rw [lN_mul, pk_lRem hb (by decide) (by decide), lN_add]
def Rh (u v : Nat) : Bool := decide (hv u < hv v ∨ (hv u = hv v ∧ u < v))
theorem Rh_iff {u v : Nat} : Rh u v = true ↔ hv u < hv v ∨ (hv u = hv v ∧ u < v) := by
  unfold Rh
  exact decide_eq_true_iff
theorem Rh_so : SO Rh := by
  refine ⟨fun x y z h1 h2 => ?_, fun x h => ?_, fun x y h => ?_⟩
  · rw [Rh_iff] at h1 h2 ⊢
    omega
  · rw [Rh_iff] at h
    omega
  · rw [Rh_iff, Rh_iff]
    omega
def RelDis (k : Nat) (X : Nat → Prop) (C : Nat → Nat) (T : List Nat) (q : DisT) : Prop :=
  Top Rh k X T ∧ q.1 = nI k ∧ q.2.1 = nI T.length ∧ ∀ p v, T[p]? = some v → q.2.2.1 p = nI v ∧ q.2.2.2 p = nI (C v)
theorem RelDis.mono {k : Nat} {X Y : Nat → Prop} {C D : Nat → Nat} {T : List Nat} {q : DisT} (h : RelDis k X C T q) (ht : Top Rh k Y T) (hc : ∀ v ∈ T, C v = D v) : RelDis k Y D T q :=
  ⟨ht, h.2.1, h.2.2.1, fun p v hp => by rw [← hc v (List.mem_of_getElem? hp)]; exact h.2.2.2 p v hp⟩
theorem df_spec {k : Nat} {X : Nat → Prop} {C : Nat → Nat} {T : List Nat} {q : DisT} (h : RelDis k X C T q) (hk : k ≤ 16) (hX : ∀ v, X v → v ≤ 1000000) {y : Nat} (hy : y ≤ 1000000) :
    ∀ (fu a : Nat), a ≤ T.length → T.length - a < fu → (∀ i v, i < a → T[i]? = some v → hv v < hv y) → ∃ p, p ≤ T.length ∧ dfL q (hash_ (nI y)) fu (nI a) = nI p ∧ (∀ i v, i < p → T[i]? = some v → hv v < hv y) ∧ ∀ v, T[p]? = some v → hv y ≤ hv v := by
  have hlm := h.1.2.1
  intro fu
  induction fu with
  | zero => intro a _ hf; exact absurd hf (Nat.not_lt_zero _)
  | succ fu ih =>
    intro a ha hf hb
    unfold dfL
    rw [h.2.2.1]
    by_cases c : T.length ≤ a
    · rw [if_pos (nI_le c (by omega))]
      refine ⟨a, ha, rfl, hb, fun v hv => ?_⟩
      rw [List.getElem?_eq_none c] at hv
      cases hv
    · rw [if_neg (fun hh => c ((nI_leI (by omega) (by omega)).mp hh))]
      obtain ⟨z, hz⟩ : ∃ z, T[a]? = some z := ⟨_, List.getElem?_eq_getElem (by omega)⟩
      have hz6 := hX z (h.1.2.2.1 z (List.mem_of_getElem? hz))
      rw [at_nI (by omega) (by decide), (h.2.2.2 a z hz).1, hash_nI hz6, hash_nI hy]
      have hc : 0 ≤ lg_cmp (lN (hv z)) (lN (hv y)) ↔ hv y ≤ hv z := by
        rw [lg_cmp_ge, pk_lLE (by have := hv_lt y; omega) (by have := hv_lt z; omega)]
      by_cases c2 : hv y ≤ hv z
      · rw [if_pos (hc.mpr c2)]
        exact ⟨a, ha, rfl, hb, fun v hv => by cases hz.symm.trans hv; exact c2⟩
      · rw [if_neg (fun hh => c2 (hc.mp hh)), nI_1, ← hash_nI hy]
        refine ih (a + 1) (by omega) (by omega) (fun i v hi hg => ?_)
        rcases Nat.lt_or_ge i a with q1 | q1
        · exact hb i v q1 hg
        · have e : i = a := by omega
          subst e
          cases hz.symm.trans hg
          omega
theorem RelDis.add {k : Nat} {X : Nat → Prop} {C : Nat → Nat} {T : List Nat} {q : DisT} (h : RelDis k X C T q) (hk : k ≤ 16) (hX : ∀ v, X v → v ≤ 1000000) {y c : Nat} (hy : y ≤ 1000000) (hC : ¬ X y → C y = 0) :
    ∃ T', RelDis k (fun v => X v ∨ v = y) (fun v => C v + if v = y then c else 0) T' (disAdd q (nI y) (nI c)) := by
  have hR := Rh_so
  have h0 := h
  obtain ⟨h1, h2, h3, h4⟩ := h
  have hlm := h1.2.1
  obtain ⟨p, p1, p2, p3, p4⟩ := df_spec h0 hk hX hy (T.length + 1) 0 (Nat.zero_le _) (by omega) (fun i v hi => absurd hi (Nat.not_lt_zero _))
  have hpf : disPf q (nI y) = nI p := by
    unfold disPf
    rw [h3, nI_toInt (by omega), show (0 : Int32).toInt = 0 from rfl]
    exact p2
  have htake : ∀ t ∈ T.take p, Rh t y = true := by
    intro t ht
    obtain ⟨i, hi, hg⟩ := mem_take_get ht
    rw [Rh_iff]
    exact Or.inl (p3 i t hi hg)
  have h6 : ∀ v ∈ T, v ≤ 1000000 := fun v hv => hX v (h1.2.2.1 v hv)
  unfold disAdd
  rw [sld_eq, hpf, h3]
  by_cases hyT : y ∈ T
  · -- counted
    obtain ⟨i, hi⟩ := List.getElem?_of_mem hyT
    have hil := (List.getElem?_eq_some_iff.mp hi).1
    have hpi : p = i := by
      rcases Nat.lt_trichotomy p i with q1 | q1 | q1
      · exfalso
        obtain ⟨z, hz⟩ : ∃ z, T[p]? = some z := ⟨_, List.getElem?_eq_getElem (by omega)⟩
        have hle := p4 z hz
        have hr := pw_get h1.1 q1 hz hi
        have hzy : z = y := hv_inj (h6 z (List.mem_of_getElem? hz)) hy (by rw [Rh_iff] at hr; omega)
        subst hzy
        exact hR.2.1 z hr
      · exact q1
      · exact absurd (p3 i y q1 hi) (Nat.lt_irrefl _)
    subst hpi
    rw [if_neg (fun hh => by rw [nI_leI (by omega) (by omega)] at hh; omega), at_nI (by omega) (by decide), (h4 p y hi).1, if_pos rfl, at_nI (by omega) (by decide), (h4 p y hi).2, nI_add, put_nI (by omega) (by decide)]
    refine ⟨T, h1.congr (fun v => ⟨Or.inl, fun hh => hh.elim id (fun e => by subst e; exact h1.2.2.1 v hyT)⟩), h2, rfl, fun j v hj => ⟨(h4 j v hj).1, ?_⟩⟩
    show upd q.2.2.2 p (nI (C y + c)) j = nI (C v + if v = y then c else 0)
    by_cases cj : j = p
    · subst cj
      cases hi.symm.trans hj
      rw [pk_us, if_pos rfl]
    · rw [pk_un cj, (h4 j v hj).2, if_neg, Nat.add_zero]
      rintro rfl
      have hn := h1.nodup hR
      rcases Nat.lt_or_ge j p with q1 | q1
      · exact hR.2.1 v (pw_get h1.1 q1 hj hi)
      · exact hR.2.1 v (pw_get h1.1 (show p < j by omega) hi hj)
  · -- a new one, or one that has fallen out
    have hdrop : ∀ t ∈ T.drop p, Rh y t = true := by
      intro t ht
      obtain ⟨i, hi, hg⟩ := mem_drop_get ht
      have hil := (List.getElem?_eq_some_iff.mp hg).1
      obtain ⟨z, hz⟩ : ∃ z, T[p]? = some z := ⟨_, List.getElem?_eq_getElem (by omega)⟩
      have hyz : Rh y z = true := by
        rw [Rh_iff]
        have := p4 z hz
        rcases Nat.lt_or_ge (hv y) (hv z) with q1 | q1
        · exact Or.inl q1
        · exact absurd (hv_inj hy (h6 z (List.mem_of_getElem? hz)) (by omega)) (fun e => hyT (by rw [e]; exact List.mem_of_getElem? hz))
      rcases Nat.lt_or_ge p i with q1 | q1
      · exact hR.1 _ _ _ hyz (pw_get h1.1 q1 hz hg)
      · have e : i = p := by omega
        subst e
        cases hz.symm.trans hg
        exact hyz
    have hins : ∃ T', RelDis k (fun v => X v ∨ v = y) (fun v => C v + if v = y then c else 0) T' (disIns q (nI p) (nI y) (nI c)) := by
      unfold disIns
      rw [sld_eq, h2]
      by_cases cx : X y
      · obtain ⟨b1, b2⟩ := h1.2.2.2 y cx hyT
        have hpk : p = k := by
          rcases Nat.lt_or_ge p T.length with q1 | q1
          · obtain ⟨z, hz⟩ : ∃ z, T[p]? = some z := ⟨_, List.getElem?_eq_getElem (by omega)⟩
            have hzT := List.mem_of_getElem? hz
            have hzd : z ∈ T.drop p := List.mem_of_getElem? (i := 0) (by rw [List.getElem?_drop]; exact hz)
            exact absurd (hR.1 _ _ _ (hdrop z hzd) (b2 z hzT)) (hR.2.1 y)
          · omega
        rw [if_neg (fun hh => by rw [nI_ltI (by omega) (by omega)] at hh; omega)]
        refine ⟨T, h0.mono (h1.congr (fun v => ⟨Or.inl, fun hh => hh.elim id (fun e => by subst e; exact cx)⟩)) (fun v hv => ?_)⟩
        rw [if_neg (fun e => hyT (by rw [← e]; exact hv)), Nat.add_zero]
      · by_cases cp : p < k
        · rw [if_pos ((nI_ltI (by omega) (by omega)).mpr cp)]
          refine ⟨(T.take p ++ y :: T.drop p).take k, h1.add hR cx htake hdrop, rfl, ?_, ?_⟩
          · show (if nI k < q.2.1 + 1 then nI k else q.2.1 + 1) = _
            rw [h3, nI_1, nI_min (by omega) (by omega), tk_len p1]
          · intro j v hj
            show ins_ 16 q.2.2.1 (nI p) (if nI k < q.2.1 + 1 then nI k else q.2.1 + 1) (nI y) j = nI v ∧ ins_ 16 q.2.2.2 (nI p) (if nI k < q.2.1 + 1 then nI k else q.2.1 + 1) (nI c) j = nI (C v + if v = y then c else 0)
            rw [h3, nI_1, nI_min (by omega) (by omega)]
            have hjl : j < min k (T.length + 1) := by
              rw [← tk_len (y := y) p1]
              exact (List.getElem?_eq_some_iff.mp hj).1
            rw [tk_get p1, if_pos (by omega)] at hj
            rw [ins_nI (by decide) (by omega) (by omega), ins_nI (by decide) (by omega) (by omega)]
            by_cases c1 : j < p
            · rw [if_pos c1] at hj
              rw [if_pos c1, if_pos c1, if_neg (fun e => hyT (by rw [← e]; exact List.mem_of_getElem? hj)), Nat.add_zero]
              exact h4 j v hj
            · rw [if_neg c1] at hj
              rw [if_neg c1, if_neg c1]
              by_cases c2 : j = p
              · rw [if_pos c2] at hj
                cases hj
                rw [if_pos c2, if_pos c2, if_pos rfl, hC cx, Nat.zero_add]
                exact ⟨rfl, rfl⟩
              · rw [if_neg c2] at hj
                have c3 : j < min k (T.length + 1) := by omega
                rw [if_neg c2, if_neg c2, if_pos c3, if_pos c3, if_neg (fun e => hyT (by rw [← e]; exact List.mem_of_getElem? hj)), Nat.add_zero]
                exact h4 (j - 1) v hj
        · rw [if_neg (fun hh => cp ((nI_ltI (by omega) (by omega)).mp hh))]
          have hT : T.take p = T := List.take_of_length_le (by omega)
          rw [hT] at htake
          refine ⟨T, h0.mono (h1.full (by omega) htake) (fun v hv => ?_)⟩
          rw [if_neg (fun e => hyT (by rw [← e]; exact hv)), Nat.add_zero]
    by_cases cl : T.length ≤ p
    · rw [if_pos (nI_le cl (by omega))]
      exact hins
    · rw [if_neg (fun hh => cl ((nI_leI (by omega) (by omega)).mp hh))]
      obtain ⟨z, hz⟩ : ∃ z, T[p]? = some z := ⟨_, List.getElem?_eq_getElem (by omega)⟩
      have hzT := List.mem_of_getElem? hz
      rw [at_nI (by omega) (by decide), (h4 p z hz).1, if_neg]
      · exact hins
      · intro hh
        have := (nI_eq (by have := h6 z hzT; omega) (by omega)).mp hh
        exact hyT (by rw [← this]; exact hzT)
