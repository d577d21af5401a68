theorem okA_2 {st : Int32} (h : okA st 0 2) : ∃ j, j ≤ 2 ∧ st = nI j := by
  obtain ⟨j, hj, e⟩ := st_three h
  exact ⟨j, by omega, e⟩
theorem XS2_iff {n0 n1 a : Nat} : XS n0 n1 2 a = true ↔ inB 0 n0 a = true ∨ inB 300 n1 a = true := by
  rw [XS_iff, inB_iff, inB_iff]
  omega
section
variable {k w n0 n1 : Nat} {sg : RRT} {mk mw st : Int32} {many it we gr fi se : Nat → Int32}
theorem RelA.pq (h : RelA k w n0 n1 sg mk mw many it we gr fi se) (hs : okA st 0 2) : ∃ j T, j ≤ 2 ∧ st = nI j ∧ PQ it we gr fi many n0 n1 j k T (rrPri sg st) := by
  obtain ⟨⟨k1, k2, w1, w2⟩, ⟨e1, e2, e3⟩, hm, hV, r0, r1⟩ := h
  obtain ⟨j, hj, rfl⟩ := okA_2 hs
  obtain ⟨T0, t0⟩ := r0.2.2.2.2.2.1
  obtain ⟨T1, t1⟩ := r1.2.2.2.2.2.1
  have hV0 : ∀ x, inB 0 n0 x = true → VP we fi x := fun x hx => (hV x (XS2_iff.mpr (Or.inl hx))).2.1
  have hV1 : ∀ x, inB 300 n1 x = true → VP we fi x := fun x hx => (hV x (XS2_iff.mpr (Or.inr hx))).2.1
  have : j = 0 ∨ j = 1 ∨ j = 2 := by omega
  rcases this with rfl | rfl | rfl
  · refine ⟨0, T0, hj, rfl, ?_, hm, hj, k1, k2, ?_⟩
    · rw [XS_0]
      exact t0
    · rw [XS_0]
      exact hV0
  · refine ⟨1, T1, hj, rfl, ?_, hm, hj, k1, k2, ?_⟩
    · rw [XS_1]
      exact t1
    · rw [XS_1]
      exact hV1
  · obtain ⟨Z, hZ⟩ := t0.merge t1 k2 hV0 hV1 (fun x y hx hy => by
      have q1 := inB_iff.mp hx
      have q2 := inB_iff.mp hy
      have := hm.2.2.1
      omega) sg.2.2.2.1
    refine ⟨2, Z, hj, rfl, ?_, hm, hj, k1, k2, fun x hx => (hV x hx).2.1⟩
    rw [← e1] at hZ
    exact hZ.mono (hZ.1.congr (fun x => XS2_iff.symm))
theorem VI_of {it we gr fi se : Nat → Int32} {P : Nat → Bool} (h : ∀ a, P a = true → a < 600 ∧ VO it we gr fi se a) : VI it P := fun a ha => ⟨(h a ha).1, (h a ha).2.1⟩
theorem RelA.dq (h : RelA k w n0 n1 sg mk mw many it we gr fi se) (hs : okA st 0 2) : ∃ j T, j ≤ 2 ∧ st = nI j ∧ DQ it many n0 n1 j k T (rrDis sg st) := by
  obtain ⟨⟨k1, k2, w1, w2⟩, ⟨e1, e2, e3⟩, hm, hV, r0, r1⟩ := h
  obtain ⟨j, hj, rfl⟩ := okA_2 hs
  obtain ⟨T0, t0⟩ := r0.2.2.2.2.2.2.1
  obtain ⟨T1, t1⟩ := r1.2.2.2.2.2.2.1
  have hV2 : VI it (XS n0 n1 2) := VI_of (fun a ha => ⟨XS_lt hm.2.2.1 hm.2.2.2 ha, hV a ha⟩)
  have hV0 : VI it (inB 0 n0) := fun x hx => hV2 x (XS2_iff.mpr (Or.inl hx))
  have hV1 : VI it (inB 300 n1) := fun x hx => hV2 x (XS2_iff.mpr (Or.inr hx))
  have : j = 0 ∨ j = 1 ∨ j = 2 := by omega
  rcases this with rfl | rfl | rfl
  · refine ⟨0, T0, hj, rfl, ?_, hm, hj, k1, k2, ?_⟩
    · rw [XS_0]
      exact t0
    · rw [XS_0]
      exact hV0
  · refine ⟨1, T1, hj, rfl, ?_, hm, hj, k1, k2, ?_⟩
    · rw [XS_1]
      exact t1
    · rw [XS_1]
      exact hV1
  · obtain ⟨Z, hZ⟩ := t0.merge t1 k2 (fun v hv => Xv_le hV0 hv) (fun v hv => Xv_le hV1 hv) (fun v hv => Cv_zero hv) (fun v hv => Cv_zero hv) sg.2.2.2.2
    refine ⟨2, Z, hj, rfl, ?_, hm, hj, k1, k2, hV2⟩
    rw [← e1] at hZ
    refine hZ.mono (hZ.1.congr (fun v => ?_)) (fun v _ => ?_)
    · rw [← XS_0 n0 n1, ← XS_1 n0 n1]
      exact Xv_2.symm
    · rw [← XS_0 n0 n1, ← XS_1 n0 n1]
      exact (Cv_2 hm.2.2.1).symm
theorem RelA.mp (h : RelA k w n0 n1 sg mk mw many it we gr fi se) : RelA k w n0 n1 (rrMP sg st) mk mw many it we gr fi se := by
  unfold rrMP
  split
  · exact h
  · exact h
theorem RelA.md (h : RelA k w n0 n1 sg mk mw many it we gr fi se) : RelA k w n0 n1 (rrMD sg st) mk mw many it we gr fi se := by
  unfold rrMD
  split
  · exact h
  · exact h
theorem RelA.taken (h : RelA k w n0 n1 sg mk mw many it we gr fi se) (hs : okA st 0 2) : (if st = 2 then sg.2.1.2.2.1 + sg.2.2.1.2.2.1 else (rrStr sg st).2.2.1) = mAll many st := by
  obtain ⟨j, hj, rfl⟩ := okA_2 hs
  rw [all_N h.2.2.1 hj]
  have a0 : sg.2.1.2.2.1 = nI n0 := h.2.2.2.2.1.2.2.1
  have a1 : sg.2.2.1.2.2.1 = nI n1 := h.2.2.2.2.2.2.2.1
  have : j = 0 ∨ j = 1 ∨ j = 2 := by omega
  rcases this with rfl | rfl | rfl
  · exact a0
  · exact a1
  · show sg.2.1.2.2.1 + sg.2.2.1.2.2.1 = nI (n0 + n1)
    rw [a0, a1, nI_add]
theorem RelA.ew (h : RelA k w n0 n1 sg mk mw many it we gr fi se) {g : Int32} (hs : okA st 0 2) (hg : okA g 0 3) : (if st = 2 then (strGrp sg.2.1 g).1 + (strGrp sg.2.2.1 g).1 else (strGrp (rrStr sg st) g).1) = mEwL many we gr st g (600 - 0 + 1) 0 0 := by
  obtain ⟨j, hj, rfl⟩ := okA_2 hs
  obtain ⟨q, hq, rfl⟩ := nI_of2 (n := 3) rfl hg.1 hg.2
  have e := ewL (we := we) (gr := gr) (g := nI q) h.2.2.1 hj (600 - 0 + 1) 0 (by omega) (by omega)
  have e2 : mEwL many we gr (nI j) (nI q) (600 - 0 + 1) 0 0 = sumI (GW we gr (XS n0 n1 j) (nI q)) 600 := e
  rw [e2]
  have a0 := (h.2.2.2.2.1.2.2.2.2.1 q hq).1
  have a1 := (h.2.2.2.2.2.2.2.2.2.1 q hq).1
  rw [← XS_0 n0 n1] at a0
  rw [← XS_1 n0 n1] at a1
  have : j = 0 ∨ j = 1 ∨ j = 2 := by omega
  rcases this with rfl | rfl | rfl
  · exact a0
  · exact a1
  · rw [GW_2 h.2.2.1.2.2.1, ← a0, ← a1]
    rfl
end
section
variable {k w n0 n1 j n : Nat} {sg : RRT} {mk mw st : Int32} {many it we gr fi se : Nat → Int32}
theorem S1.go (h : S1 k w n0 n1 j n sg mk mw many it we gr fi se st) {g : Int32} (hg : okA g 0 3) : (strGrp (rrStr sg st) g).2.2.1 = mGoL many gr st g (600 - 0 + 1) 0 0 := by
  obtain ⟨b1, b2, b3, b4, b5⟩ := h.2.1
  have e := goL (gr := gr) (g := g) h.1.2.2.1 (show j ≤ 2 by omega) (600 - 0 + 1) 0 (by omega) (by omega)
  rw [cnt_0, nI_0] at e
  rw [b2, e, ← b2, (h.grp hg).2.2.1]
  have hg1 : ¬ g = -1 := by
    rintro rfl
    exact hg.1 (by decide)
  rw [rsC_cnt hg1 (by omega)]
  have hX : XS n0 n1 j = inB (300 * j) n := by
    have : j = 0 ∨ j = 1 := by omega
    rcases this with rfl | rfl
    · rw [XS_0, b5, if_pos rfl]
    · rw [XS_1, b5, if_neg (by decide)]
  rw [hX]
theorem S1.clear (h : S1 k w n0 n1 j n sg mk mw many it we gr fi se st) : ∃ m0 m1, RelA k w m0 m1 (rrSet sg st (strEmpty (rrStr sg st))) mk mw (upd many st.toNatClampNeg 0) it we gr fi se := by
  obtain ⟨⟨hkw, hs, hm, hV, r0, r1⟩, ⟨b1, rfl, -, -, -⟩, -, -⟩ := h
  have : j = 0 ∨ j = 1 := by omega
  rcases this with rfl | rfl
  · exact ⟨0, n1, hkw, hs, ⟨nI_0.symm, hm.2.1, by omega, hm.2.2.2⟩, fun a ha => hV a (by rw [XS_iff] at ha ⊢; omega), RelStr.empty r0.1 r0.2.1, r1⟩
  · exact ⟨n0, 0, hkw, hs, ⟨hm.1, nI_0.symm, hm.2.2.1, by omega⟩, fun a ha => hV a (by rw [XS_iff] at ha ⊢; omega), r0, RelStr.empty r1.1 r1.2.1⟩
theorem S1.at (h : S1 k w n0 n1 j n sg mk mw many it we gr fi se st) (hn : n < 300) : ((300 * st) + (many st.toNatClampNeg)).toNatClampNeg = 300 * j + n ∧ vp_in ((300 * st) + (many st.toNatClampNeg)) 600 := by
  obtain ⟨b1, b2, b3, b4, b5⟩ := h.2.1
  rw [h.mul, b4, nI_add]
  exact ⟨nI_clamp (by omega), vp_nI (by omega) (by decide)⟩
theorem S1.offer (h : S1 k w n0 n1 j n sg mk mw many it we gr fi se st) (hn : n < 300) {ia wa ga fa sa : Int32} (h1 : okA ia 0 1000000) (h2 : okA wa 1 1000000) (h3 : okA ga 0 3) (h4 : okA fa 0 2147483647) (h5 : okA sa 0 2147483647) :
    ∃ m0 m1, RelA k w m0 m1 (rrSet sg st (strTake (rrStr sg st) ia wa ga fa sa)) mk mw (upd many st.toNatClampNeg (many st.toNatClampNeg + 1)) (upd it ((300 * st) + (many st.toNatClampNeg)).toNatClampNeg ia) (upd we ((300 * st) + (many st.toNatClampNeg)).toNatClampNeg wa) (upd gr ((300 * st) + (many st.toNatClampNeg)).toNatClampNeg ga) (upd fi ((300 * st) + (many st.toNatClampNeg)).toNatClampNeg fa) (upd se ((300 * st) + (many st.toNatClampNeg)).toNatClampNeg sa) := by
  rw [(h.at hn).1]
  obtain ⟨⟨hkw, hs, hm, hV, r0, r1⟩, ⟨b1, rfl, b3, b4, b5⟩, hVs, -⟩ := h
  obtain ⟨v1, v2, rfl⟩ := nI_of2 (n := 1000000) rfl h1.1 h1.2
  obtain ⟨g1, g2, rfl⟩ := nI_of2 (n := 3) rfl h3.1 h3.2
  obtain ⟨f1, f2, rfl⟩ := nI_of h4.1
  obtain ⟨s1, s2, rfl⟩ := nI_of h5.1
  have hw0 : ¬ wa < 0 := by
    intro hh
    refine h2.1 ?_
    rw [Int32.lt_iff_toInt_lt] at hh ⊢
    have a : (0 : Int32).toInt = 0 := rfl
    have b : (1 : Int32).toInt = 1 := rfl
    omega
  obtain ⟨q1, q2, rfl⟩ := nI_of2 (n := 1000000) rfl hw0 h2.2
  have hq1 : 1 ≤ q1 := by
    rcases Nat.eq_zero_or_pos q1 with q | q
    · subst q
      exact absurd (show nI 0 < 1 by decide) h2.1
    · exact q
  have hne : ∀ a, a ≠ 300 * j + n → upd it (300 * j + n) (nI v1) a = it a ∧ upd we (300 * j + n) (nI q1) a = we a ∧ upd gr (300 * j + n) (nI g1) a = gr a ∧ upd fi (300 * j + n) (nI f1) a = fi a ∧ upd se (300 * j + n) (nI s1) a = se a := fun a ha => ⟨pk_un ha, pk_un ha, pk_un ha, pk_un ha, pk_un ha⟩
  have hVn : ∀ a, (a ≠ 300 * j + n → VO it we gr fi se a) → VO (upd it (300 * j + n) (nI v1)) (upd we (300 * j + n) (nI q1)) (upd gr (300 * j + n) (nI g1)) (upd fi (300 * j + n) (nI f1)) (upd se (300 * j + n) (nI s1)) a := by
    intro a ha
    by_cases c : a = 300 * j + n
    · subst c
      unfold VO VP
      rw [pk_us, pk_us, pk_us, pk_us, pk_us]
      exact ⟨⟨v1, v2, rfl⟩, ⟨⟨q1, hq1, q2, rfl⟩, f1, f2, rfl⟩, ⟨g1, g2, rfl⟩, s1, s2, rfl⟩
    · have := ha c
      obtain ⟨c1, c2, c3, c4, c5⟩ := hne a c
      unfold VO VP at this ⊢
      rw [c1, c2, c3, c4, c5]
      exact this
  have tk : ∀ (base : Nat) (t : StrT), base = 300 * j → (base = 0 ∨ base = 300) → RelStr it we gr fi se base n k w t → RelStr (upd it (300 * j + n) (nI v1)) (upd we (300 * j + n) (nI q1)) (upd gr (300 * j + n) (nI g1)) (upd fi (300 * j + n) (nI f1)) (upd se (300 * j + n) (nI s1)) base (n + 1) k w (strTake t (nI v1) (nI q1) (nI g1) (nI f1) (nI s1)) := by
    intro base t hb hb2 hr
    have hf := hr.frame (it' := upd it (300 * j + n) (nI v1)) (we' := upd we (300 * j + n) (nI q1)) (gr' := upd gr (300 * j + n) (nI g1)) (fi' := upd fi (300 * j + n) (nI f1)) (se' := upd se (300 * j + n) (nI s1)) hkw.2.2.1 (fun a c1 c2 => hne a (by omega))
    have := hf.take hkw.2.1 hkw.2.2.1 hkw.2.2.2 hn hb2 (fun a c1 c2 => hVn a (fun hc => hVs a (by omega) (by omega)))
    rw [hb] at this ⊢
    rw [pk_us, pk_us, pk_us, pk_us, pk_us] at this
    exact this
  have fr : ∀ (base q : Nat) (t : StrT), (∀ a, base ≤ a → a < base + q → a ≠ 300 * j + n) → RelStr it we gr fi se base q k w t → RelStr (upd it (300 * j + n) (nI v1)) (upd we (300 * j + n) (nI q1)) (upd gr (300 * j + n) (nI g1)) (upd fi (300 * j + n) (nI f1)) (upd se (300 * j + n) (nI s1)) base q k w t := fun base q t hq hr => hr.frame hkw.2.2.1 (fun a c1 c2 => hne a (hq a c1 c2))
  have hm3 := hm.2.2.1
  have hm4 := hm.2.2.2
  have : j = 0 ∨ j = 1 := by omega
  rcases this with rfl | rfl
  · rw [if_pos rfl] at b5
    subst b5
    refine ⟨n + 1, n1, hkw, hs, ⟨?_, hm.2.1, by omega, hm.2.2.2⟩, fun a ha => hVn a (fun hc => hV a (by rw [XS_iff] at ha ⊢; omega)), tk 0 sg.2.1 rfl (Or.inl rfl) r0, fr 300 n1 sg.2.2.1 (fun a c1 c2 => by omega) r1⟩
    show upd many 0 (many 0 + 1) 0 = nI (n + 1)
    rw [pk_us, hm.1, nI_1]
  · rw [if_neg (by decide)] at b5
    subst b5
    refine ⟨n0, n + 1, hkw, hs, ⟨hm.1, ?_, hm.2.2.1, by omega⟩, fun a ha => hVn a (fun hc => hV a (by rw [XS_iff] at ha ⊢; omega)), fr 0 n0 sg.2.1 (fun a c1 c2 => by omega) r0, tk 300 sg.2.2.1 rfl (Or.inr rfl) r1⟩
    show upd many 1 (many 1 + 1) 1 = nI (n + 1)
    rw [pk_us, hm.2.1, nI_1]
end
