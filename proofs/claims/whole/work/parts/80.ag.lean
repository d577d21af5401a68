set_option maxRecDepth 100000 in
theorem ag_begin (l : Launch) (hl0 : l.stackTraces = false) (G : GT) (ad : Nat → Nat) (o : Nat) (ae : Nat → Nat) (u : Nat) {sg : RRT} {r : MoT} (hR : Rel sg r) (k2 w2 : Int32) : AgV l yL_begin wsL_begin { frames := 8, cells := 1, slots := 6, locals := 144 } yX7_begin wsX7_begin { frames := 1, cells := 0, slots := 0, locals := 22 } G ad o ae u sg r [.ref (ad o), .int k2, .int w2] [.ref (ae u), .int k2, .int w2] := by
  obtain ⟨k, w, n0, n1, hA⟩ := hR
  by_cases h : okA k2 2 16 ∧ okA w2 1 64
  · obtain ⟨kq, q1, q2, e1⟩ := okA_rng (a := 2) (b := 16) rfl rfl h.1
    obtain ⟨wq, p1, p2, e2⟩ := okA_rng (a := 1) (b := 64) rfl rfl h.2
    refine ⟨0, _, _, k_L_begin l G ad o sg k2 w2 h.1 h.2, k_X7_begin l G ae u r k2 w2 h.1 h.2, rfl, kq, wq, 0, 0, ?_⟩
    subst e1
    subst e2
    exact rel_start q1 q2 p1 p2 sg rfl rfl
  · exact ⟨1, _, _, k1_L_begin l hl0 G ad o sg k2 w2 h, kn_X7_begin l G ae u r k2 w2 h, rfl, ⟨k, w, n0, n1, hA⟩⟩

set_option maxRecDepth 100000 in
theorem ag_offer (l : Launch) (hl0 : l.stackTraces = false) (G : GT) (ad : Nat → Nat) (o : Nat) (ae : Nat → Nat) (u : Nat) {sg : RRT} {r : MoT} (hR : Rel sg r) (st ia wa gr fa sa : Int32) (ou : Nat) (fo : Nat → Int64) : AgI l yL_offer wsL_offer { frames := 8, cells := 1, slots := 6, locals := 149 } yX7_offer wsX7_offer { frames := 1, cells := 0, slots := 0, locals := 22 } G ad o ae u sg r ou fo [.ref (ad o), .int st, .int ia, .int wa, .int gr, .int fa, .int sa, .ref ou] [.ref (ae u), .int st, .int ia, .int wa, .int gr, .int fa, .int sa] := by
  obtain ⟨k, w, n0, n1, hA⟩ := hR
  by_cases h : okA st 0 1 ∧ okA ia 0 1000000 ∧ okA wa 1 1000000 ∧ okA gr 0 3 ∧ okA fa 0 2147483647 ∧ okA sa 0 2147483647
  · obtain ⟨h0, h1, h2, h3, h4, h5⟩ := h
    obtain ⟨j, n, hS⟩ := hA.s1 h0
    by_cases c : n = 300
    · exact ⟨2, _, _, _, _, k2_L_offer l hl0 G ad o sg st ia wa gr fa sa ou fo h0 h1 h2 h3 h4 h5 (hS.full.1.mpr c), km_X7_offer l G ae u r st ia wa gr fa sa h0 h1 h2 h3 h4 h5 (hS.full.2.mpr c), rfl, fun hh => absurd hh (by decide), ⟨k, w, n0, n1, hA⟩⟩
    · have hn : n < 300 := by have := hS.2.1.2.2.1; omega
      obtain ⟨m0, m1, hO⟩ := hS.offer hn h1 h2 h3 h4 h5
      exact ⟨0, _, _, _, _, k_L_offer l G ad o sg st ia wa gr fa sa ou fo h0 h1 h2 h3 h4 h5 (fun hh => c (hS.full.1.mp hh)), k_X7_offer l G ae u r st ia wa gr fa sa h0 h1 h2 h3 h4 h5 (fun hh => c (hS.full.2.mp hh)) (hS.at hn).2, rfl, fun _ => pk_uLs.trans (congrArg Int32.toInt64 (by rw [pk_us, ← hS.taken]; rfl)), ⟨k, w, m0, m1, hO⟩⟩
  · exact ⟨1, _, _, _, _, k1_L_offer l hl0 G ad o sg st ia wa gr fa sa ou fo h, kn_X7_offer l G ae u r st ia wa gr fa sa h, rfl, fun hh => absurd hh (by decide), ⟨k, w, n0, n1, hA⟩⟩

set_option maxRecDepth 100000 in
theorem ag_clear (l : Launch) (hl0 : l.stackTraces = false) (G : GT) (ad : Nat → Nat) (o : Nat) (ae : Nat → Nat) (u : Nat) {sg : RRT} {r : MoT} (hR : Rel sg r) (st : Int32) (ou : Nat) (fo : Nat → Int64) : AgI l yL_clear wsL_clear { frames := 8, cells := 1, slots := 6, locals := 145 } yX7_clear wsX7_clear { frames := 2, cells := 0, slots := 0, locals := 44 } G ad o ae u sg r ou fo [.ref (ad o), .int st, .ref ou] [.ref (ae u), .int st] := by
  obtain ⟨k, w, n0, n1, hA⟩ := hR
  by_cases h : okA st 0 1
  · obtain ⟨j, n, hS⟩ := hA.s1 h
    obtain ⟨m0, m1, hO⟩ := hS.clear
    exact ⟨0, _, _, _, _, k_L_clear l G ad o sg st ou fo h, k_X7_clear l G ae u r st h, rfl, fun _ => pk_uLs.trans (congrArg Int32.toInt64 (hS.taken)), ⟨k, w, m0, m1, hO⟩⟩
  · exact ⟨1, _, _, _, _, k1_L_clear l hl0 G ad o sg st ou fo h, kn_X7_clear l G ae u r st h, rfl, fun hh => absurd hh (by decide), ⟨k, w, n0, n1, hA⟩⟩

set_option maxRecDepth 100000 in
theorem ag_offers (l : Launch) (hl0 : l.stackTraces = false) (G : GT) (ad : Nat → Nat) (o : Nat) (ae : Nat → Nat) (u : Nat) {sg : RRT} {r : MoT} (hR : Rel sg r) (st : Int32) (ou : Nat) (fo : Nat → Int64) : AgI l yL_offers wsL_offers { frames := 8, cells := 1, slots := 6, locals := 143 } yX7_offers wsX7_offers { frames := 2, cells := 0, slots := 0, locals := 44 } G ad o ae u sg r ou fo [.ref (ad o), .int st, .ref ou] [.ref (ae u), .int st] := by
  obtain ⟨k, w, n0, n1, hA⟩ := hR
  by_cases h : okA st 0 2
  · exact ⟨0, _, _, _, _, k_L_offers l G ad o sg st ou fo h, k_X7_offers l G ae u r st h, rfl, fun _ => pk_uLs.trans (congrArg Int32.toInt64 (hA.taken h)), ⟨k, w, n0, n1, hA⟩⟩
  · exact ⟨1, _, _, _, _, k1_L_offers l hl0 G ad o sg st ou fo h, kn_X7_offers l G ae u r st h, rfl, fun hh => absurd hh (by decide), ⟨k, w, n0, n1, hA⟩⟩

set_option maxRecDepth 100000 in
theorem ag_exactWeight (l : Launch) (hl0 : l.stackTraces = false) (G : GT) (ad : Nat → Nat) (o : Nat) (ae : Nat → Nat) (u : Nat) {sg : RRT} {r : MoT} (hR : Rel sg r) (st gr : Int32) (ou : Nat) (fo : Nat → Int64) : AgI l yL_exactWeight wsL_exactWeight { frames := 8, cells := 1, slots := 6, locals := 144 } yX7_exactWeight wsX7_exactWeight { frames := 2, cells := 0, slots := 0, locals := 45 } G ad o ae u sg r ou fo [.ref (ad o), .int st, .int gr, .ref ou] [.ref (ae u), .int st, .int gr] := by
  obtain ⟨k, w, n0, n1, hA⟩ := hR
  by_cases h : okA st 0 2 ∧ okA gr 0 3
  · exact ⟨0, _, _, _, _, k_L_exactWeight l G ad o sg st gr ou fo h.1 h.2, k_X7_exactWeight l G ae u r st gr h.1 h.2, rfl, fun _ => pk_uLs.trans (congrArg Int32.toInt64 (hA.ew h.1 h.2)), ⟨k, w, n0, n1, hA⟩⟩
  · exact ⟨1, _, _, _, _, k1_L_exactWeight l hl0 G ad o sg st gr ou fo h, kn_X7_exactWeight l G ae u r st gr h, rfl, fun hh => absurd hh (by decide), ⟨k, w, n0, n1, hA⟩⟩

set_option maxRecDepth 100000 in
theorem ag_reservoirSize (l : Launch) (hl0 : l.stackTraces = false) (G : GT) (ad : Nat → Nat) (o : Nat) (ae : Nat → Nat) (u : Nat) {sg : RRT} {r : MoT} (hR : Rel sg r) (st : Int32) (ou : Nat) (fo : Nat → Int64) : AgI l yL_reservoirSize wsL_reservoirSize { frames := 8, cells := 1, slots := 6, locals := 143 } yX7_reservoirSize wsX7_reservoirSize { frames := 2, cells := 0, slots := 0, locals := 44 } G ad o ae u sg r ou fo [.ref (ad o), .int st, .ref ou] [.ref (ae u), .int st] := by
  obtain ⟨k, w, n0, n1, hA⟩ := hR
  by_cases h : okA st 0 1
  · obtain ⟨j, n, hS⟩ := hA.s1 h
    exact ⟨0, _, _, _, _, k_L_reservoirSize l G ad o sg st ou fo h, k_X7_reservoirSize l G ae u r st h, rfl, fun _ => pk_uLs.trans (congrArg Int32.toInt64 (hS.rsize)), ⟨k, w, n0, n1, hA⟩⟩
  · exact ⟨1, _, _, _, _, k1_L_reservoirSize l hl0 G ad o sg st ou fo h, kn_X7_reservoirSize l G ae u r st h, rfl, fun hh => absurd hh (by decide), ⟨k, w, n0, n1, hA⟩⟩

set_option maxRecDepth 100000 in
theorem ag_reservoirItem (l : Launch) (hl0 : l.stackTraces = false) (G : GT) (ad : Nat → Nat) (o : Nat) (ae : Nat → Nat) (u : Nat) {sg : RRT} {r : MoT} (hR : Rel sg r) (st sl : Int32) (ou : Nat) (fo : Nat → Int64) : AgI l yL_reservoirItem wsL_reservoirItem { frames := 8, cells := 1, slots := 6, locals := 145 } yX7_reservoirItem wsX7_reservoirItem { frames := 2, cells := 0, slots := 0, locals := 52 } G ad o ae u sg r ou fo [.ref (ad o), .int st, .int sl, .ref ou] [.ref (ae u), .int st, .int sl] := by
  obtain ⟨k, w, n0, n1, hA⟩ := hR
  by_cases h : okA st 0 1
  · obtain ⟨j, n, hS⟩ := hA.s1 h
    by_cases c : okP sl (resFilled (rrStr sg st).2.2.2.1)
    · have hq := hS.slot hS.res c
      exact ⟨0, _, _, _, _, k_L_reservoirItem l G ad o sg st sl ou fo h c, k_X7_reservoirItem l G ae u r st sl h hS.okB hq.1 hq.2.1, rfl, fun _ => pk_uLs.trans (congrArg Int32.toInt64 (hq.2.2.1)), ⟨k, w, n0, n1, hA⟩⟩
    · exact ⟨2, _, _, _, _, k2_L_reservoirItem l hl0 G ad o sg st sl ou fo h c, km_X7_reservoirItem l G ae u r st sl h hS.okB (hS.noslot hS.res c), rfl, fun hh => absurd hh (by decide), ⟨k, w, n0, n1, hA⟩⟩
  · exact ⟨1, _, _, _, _, k1_L_reservoirItem l hl0 G ad o sg st sl ou fo h, kn_X7_reservoirItem l G ae u r st sl h, rfl, fun hh => absurd hh (by decide), ⟨k, w, n0, n1, hA⟩⟩

set_option maxRecDepth 100000 in
theorem ag_reservoirPosition (l : Launch) (hl0 : l.stackTraces = false) (G : GT) (ad : Nat → Nat) (o : Nat) (ae : Nat → Nat) (u : Nat) {sg : RRT} {r : MoT} (hR : Rel sg r) (st sl : Int32) (ou : Nat) (fo : Nat → Int64) : AgI l yL_reservoirPosition wsL_reservoirPosition { frames := 8, cells := 1, slots := 6, locals := 145 } yX7_reservoirPosition wsX7_reservoirPosition { frames := 2, cells := 0, slots := 0, locals := 52 } G ad o ae u sg r ou fo [.ref (ad o), .int st, .int sl, .ref ou] [.ref (ae u), .int st, .int sl] := by
  obtain ⟨k, w, n0, n1, hA⟩ := hR
  by_cases h : okA st 0 1
  · obtain ⟨j, n, hS⟩ := hA.s1 h
    by_cases c : okP sl (resFilled (rrStr sg st).2.2.2.1)
    · have hq := hS.slot hS.res c
      exact ⟨0, _, _, _, _, k_L_reservoirPosition l G ad o sg st sl ou fo h c, k_X7_reservoirPosition l G ae u r st sl h hS.okB hq.1 hq.2.1, rfl, fun _ => pk_uLs.trans (congrArg Int32.toInt64 (hq.2.2.2)), ⟨k, w, n0, n1, hA⟩⟩
    · exact ⟨2, _, _, _, _, k2_L_reservoirPosition l hl0 G ad o sg st sl ou fo h c, km_X7_reservoirPosition l G ae u r st sl h hS.okB (hS.noslot hS.res c), rfl, fun hh => absurd hh (by decide), ⟨k, w, n0, n1, hA⟩⟩
  · exact ⟨1, _, _, _, _, k1_L_reservoirPosition l hl0 G ad o sg st sl ou fo h, kn_X7_reservoirPosition l G ae u r st sl h, rfl, fun hh => absurd hh (by decide), ⟨k, w, n0, n1, hA⟩⟩

set_option maxRecDepth 100000 in
theorem ag_groupOffers (l : Launch) (hl0 : l.stackTraces = false) (G : GT) (ad : Nat → Nat) (o : Nat) (ae : Nat → Nat) (u : Nat) {sg : RRT} {r : MoT} (hR : Rel sg r) (st gr : Int32) (ou : Nat) (fo : Nat → Int64) : AgI l yL_groupOffers wsL_groupOffers { frames := 8, cells := 1, slots := 6, locals := 144 } yX7_groupOffers wsX7_groupOffers { frames := 2, cells := 0, slots := 0, locals := 45 } G ad o ae u sg r ou fo [.ref (ad o), .int st, .int gr, .ref ou] [.ref (ae u), .int st, .int gr] := by
  obtain ⟨k, w, n0, n1, hA⟩ := hR
  by_cases h : okA st 0 1 ∧ okA gr 0 3
  · obtain ⟨j, n, hS⟩ := hA.s1 h.1
    exact ⟨0, _, _, _, _, k_L_groupOffers l G ad o sg st gr ou fo h.1 h.2, k_X7_groupOffers l G ae u r st gr h.1 h.2, rfl, fun _ => pk_uLs.trans (congrArg Int32.toInt64 (hS.go h.2)), ⟨k, w, n0, n1, hA⟩⟩
  · exact ⟨1, _, _, _, _, k1_L_groupOffers l hl0 G ad o sg st gr ou fo h, kn_X7_groupOffers l G ae u r st gr h, rfl, fun hh => absurd hh (by decide), ⟨k, w, n0, n1, hA⟩⟩

set_option maxRecDepth 100000 in
theorem ag_groupItem (l : Launch) (hl0 : l.stackTraces = false) (G : GT) (ad : Nat → Nat) (o : Nat) (ae : Nat → Nat) (u : Nat) {sg : RRT} {r : MoT} (hR : Rel sg r) (st gr sl : Int32) (ou : Nat) (fo : Nat → Int64) : AgI l yL_groupItem wsL_groupItem { frames := 8, cells := 1, slots := 6, locals := 146 } yX7_groupItem wsX7_groupItem { frames := 2, cells := 0, slots := 0, locals := 52 } G ad o ae u sg r ou fo [.ref (ad o), .int st, .int gr, .int sl, .ref ou] [.ref (ae u), .int st, .int gr, .int sl] := by
  obtain ⟨k, w, n0, n1, hA⟩ := hR
  by_cases h : okA st 0 1 ∧ okA gr 0 3
  · obtain ⟨j, n, hS⟩ := hA.s1 h.1
    have hg := (hS.grp h.2).2
    by_cases c : okP sl (resFilled (strGrp (rrStr sg st) gr).2)
    · have hq := hS.slot hg c
      exact ⟨0, _, _, _, _, k_L_groupItem l G ad o sg st gr sl ou fo h.1 h.2 c, k_X7_groupItem l G ae u r st gr sl h.1 h.2 hS.okB hq.1 hq.2.1, rfl, fun _ => pk_uLs.trans (congrArg Int32.toInt64 (hq.2.2.1)), ⟨k, w, n0, n1, hA⟩⟩
    · exact ⟨2, _, _, _, _, k2_L_groupItem l hl0 G ad o sg st gr sl ou fo h.1 h.2 c, km_X7_groupItem l G ae u r st gr sl h.1 h.2 hS.okB (hS.noslot hg c), rfl, fun hh => absurd hh (by decide), ⟨k, w, n0, n1, hA⟩⟩
  · exact ⟨1, _, _, _, _, k1_L_groupItem l hl0 G ad o sg st gr sl ou fo h, kn_X7_groupItem l G ae u r st gr sl h, rfl, fun hh => absurd hh (by decide), ⟨k, w, n0, n1, hA⟩⟩

set_option maxRecDepth 100000 in
theorem ag_prioritySize (l : Launch) (hl0 : l.stackTraces = false) (G : GT) (ad : Nat → Nat) (o : Nat) (ae : Nat → Nat) (u : Nat) {sg : RRT} {r : MoT} (hR : Rel sg r) (st : Int32) (ou : Nat) (fo : Nat → Int64) : AgI l yL_prioritySize wsL_prioritySize { frames := 8, cells := 1, slots := 6, locals := 157 } yX7_prioritySize wsX7_prioritySize { frames := 2, cells := 0, slots := 0, locals := 44 } G ad o ae u sg r ou fo [.ref (ad o), .int st, .ref ou] [.ref (ae u), .int st] := by
  obtain ⟨k, w, n0, n1, hA⟩ := hR
  by_cases h9 : okA st 0 2
  · obtain ⟨j, T, hj, rfl, hq⟩ := hA.pq h9
    have e := hA.2.1.2.1
    exact ⟨0, _, _, _, _, k_L_prioritySize l G ad o sg (nI j) ou fo h9, k_X7_prioritySize l G ae u r (nI j) h9, rfl, fun _ => pk_uLs.trans (congrArg Int32.toInt64 ((by rw [e]; exact hq.size))), ⟨k, w, n0, n1, hA.mp⟩⟩
  · exact ⟨1, _, _, _, _, k1_L_prioritySize l hl0 G ad o sg st ou fo h9, kn_X7_prioritySize l G ae u r st h9, rfl, fun hh => absurd hh (by decide), ⟨k, w, n0, n1, hA⟩⟩

set_option maxRecDepth 100000 in
theorem ag_priorityItem (l : Launch) (hl0 : l.stackTraces = false) (G : GT) (ad : Nat → Nat) (o : Nat) (ae : Nat → Nat) (u : Nat) {sg : RRT} {r : MoT} (hR : Rel sg r) (st sl : Int32) (ou : Nat) (fo : Nat → Int64) : AgI l yL_priorityItem wsL_priorityItem { frames := 8, cells := 1, slots := 6, locals := 159 } yX7_priorityItem wsX7_priorityItem { frames := 3, cells := 0, slots := 0, locals := 64 } G ad o ae u sg r ou fo [.ref (ad o), .int st, .int sl, .ref ou] [.ref (ae u), .int st, .int sl] := by
  obtain ⟨k, w, n0, n1, hA⟩ := hR
  by_cases h9 : okA st 0 2
  · obtain ⟨j, T, hj, rfl, hq⟩ := hA.pq h9
    have e := hA.2.1.2.1
    by_cases c : okP sl (priSampled (rrPri sg (nI j)))
    · exact ⟨0, _, _, _, _, k_L_priorityItem l G ad o sg (nI j) sl ou fo h9 c, k_X7_priorityItem l G ae u r (nI j) sl h9 (by rw [e]; exact hq.place.mp c) (hq.vin c), rfl, fun _ => pk_uLs.trans (congrArg Int32.toInt64 (hq.item c)), ⟨k, w, n0, n1, hA.mp⟩⟩
    · exact ⟨2, _, _, _, _, k2_L_priorityItem l hl0 G ad o sg (nI j) sl ou fo h9 c, km_X7_priorityItem l G ae u r (nI j) sl h9 (by rw [e]; exact fun hh => c (hq.place.mpr hh)), rfl, fun hh => absurd hh (by decide), ⟨k, w, n0, n1, hA.mp⟩⟩
  · exact ⟨1, _, _, _, _, k1_L_priorityItem l hl0 G ad o sg st sl ou fo h9, kn_X7_priorityItem l G ae u r st sl h9, rfl, fun hh => absurd hh (by decide), ⟨k, w, n0, n1, hA⟩⟩

set_option maxRecDepth 100000 in
theorem ag_estimatedWeight (l : Launch) (hl0 : l.stackTraces = false) (G : GT) (ad : Nat → Nat) (o : Nat) (ae : Nat → Nat) (u : Nat) {sg : RRT} {r : MoT} (hR : Rel sg r) (st sl : Int32) (ou : Nat) (fo : Nat → Int64) : AgL l yL_estimatedWeight wsL_estimatedWeight { frames := 8, cells := 1, slots := 6, locals := 159 } yX7_estimatedWeight wsX7_estimatedWeight { frames := 3, cells := 0, slots := 0, locals := 74 } G ad o ae u sg r ou fo [.ref (ad o), .int st, .int sl, .ref ou] [.ref (ae u), .int st, .int sl] := by
  obtain ⟨k, w, n0, n1, hA⟩ := hR
  by_cases h9 : okA st 0 2
  · obtain ⟨j, T, hj, rfl, hq⟩ := hA.pq h9
    have e := hA.2.1.2.1
    by_cases c : okP sl (priSampled (rrPri sg (nI j)))
    · exact ⟨0, _, _, _, _, k_L_estimatedWeight l G ad o sg (nI j) sl ou fo h9 c, k_X7_estimatedWeight l G ae u r (nI j) sl h9 (by rw [e]; exact hq.place.mp c) (hq.vin c) (by rw [e]; exact hq.thrOk), rfl, fun _ => pk_uLs.trans ((by rw [e]; exact hq.est c)), ⟨k, w, n0, n1, hA.mp⟩⟩
    · exact ⟨2, _, _, _, _, k2_L_estimatedWeight l hl0 G ad o sg (nI j) sl ou fo h9 c, km_X7_estimatedWeight l G ae u r (nI j) sl h9 (by rw [e]; exact fun hh => c (hq.place.mpr hh)), rfl, fun hh => absurd hh (by decide), ⟨k, w, n0, n1, hA.mp⟩⟩
  · exact ⟨1, _, _, _, _, k1_L_estimatedWeight l hl0 G ad o sg st sl ou fo h9, kn_X7_estimatedWeight l G ae u r st sl h9, rfl, fun hh => absurd hh (by decide), ⟨k, w, n0, n1, hA⟩⟩

set_option maxRecDepth 100000 in
theorem ag_threshold (l : Launch) (hl0 : l.stackTraces = false) (G : GT) (ad : Nat → Nat) (o : Nat) (ae : Nat → Nat) (u : Nat) {sg : RRT} {r : MoT} (hR : Rel sg r) (st : Int32) (ou : Nat) (fo : Nat → Int64) : AgL l yL_threshold wsL_threshold { frames := 8, cells := 1, slots := 6, locals := 157 } yX7_threshold wsX7_threshold { frames := 3, cells := 0, slots := 0, locals := 74 } G ad o ae u sg r ou fo [.ref (ad o), .int st, .ref ou] [.ref (ae u), .int st] := by
  obtain ⟨k, w, n0, n1, hA⟩ := hR
  by_cases h9 : okA st 0 2
  · obtain ⟨j, T, hj, rfl, hq⟩ := hA.pq h9
    have e := hA.2.1.2.1
    exact ⟨0, _, _, _, _, k_L_threshold l G ad o sg (nI j) ou fo h9, k_X7_threshold l G ae u r (nI j) h9 (by rw [e]; exact hq.thrOk), rfl, fun _ => pk_uLs.trans ((by rw [e]; exact hq.thr)), ⟨k, w, n0, n1, hA.mp⟩⟩
  · exact ⟨1, _, _, _, _, k1_L_threshold l hl0 G ad o sg st ou fo h9, kn_X7_threshold l G ae u r st h9, rfl, fun hh => absurd hh (by decide), ⟨k, w, n0, n1, hA⟩⟩

set_option maxRecDepth 100000 in
theorem ag_estimate (l : Launch) (hl0 : l.stackTraces = false) (G : GT) (ad : Nat → Nat) (o : Nat) (ae : Nat → Nat) (u : Nat) {sg : RRT} {r : MoT} (hR : Rel sg r) (st gr : Int32) (ou : Nat) (fo : Nat → Int64) : AgL l yL_estimate wsL_estimate { frames := 8, cells := 1, slots := 6, locals := 158 } yX7_estimate wsX7_estimate { frames := 3, cells := 0, slots := 0, locals := 74 } G ad o ae u sg r ou fo [.ref (ad o), .int st, .int gr, .ref ou] [.ref (ae u), .int st, .int gr] := by
  obtain ⟨k, w, n0, n1, hA⟩ := hR
  by_cases h : okA st 0 2 ∧ okA gr 0 3
  · have h9 := h.1
    obtain ⟨j, T, hj, rfl, hq⟩ := hA.pq h9
    have e := hA.2.1.2.1
    exact ⟨0, _, _, _, _, k_L_estimate l G ad o sg (nI j) gr ou fo h9 h.2, k_X7_estimate l G ae u r (nI j) gr h9 h.2 (by rw [e]; exact hq.h16) (by rw [e]; exact hq.hrs) (by rw [e]; exact hq.thrOk), rfl, fun _ => pk_uLs.trans ((by rw [e]; exact hq.esum gr)), ⟨k, w, n0, n1, hA.mp⟩⟩
  · exact ⟨1, _, _, _, _, k1_L_estimate l hl0 G ad o sg st gr ou fo h, kn_X7_estimate l G ae u r st gr h, rfl, fun hh => absurd hh (by decide), ⟨k, w, n0, n1, hA⟩⟩

set_option maxRecDepth 100000 in
theorem ag_sampledWeight (l : Launch) (hl0 : l.stackTraces = false) (G : GT) (ad : Nat → Nat) (o : Nat) (ae : Nat → Nat) (u : Nat) {sg : RRT} {r : MoT} (hR : Rel sg r) (st gr : Int32) (ou : Nat) (fo : Nat → Int64) : AgI l yL_sampledWeight wsL_sampledWeight { frames := 8, cells := 1, slots := 6, locals := 158 } yX7_sampledWeight wsX7_sampledWeight { frames := 2, cells := 0, slots := 0, locals := 52 } G ad o ae u sg r ou fo [.ref (ad o), .int st, .int gr, .ref ou] [.ref (ae u), .int st, .int gr] := by
  obtain ⟨k, w, n0, n1, hA⟩ := hR
  by_cases h : okA st 0 2 ∧ okA gr 0 3
  · have h9 := h.1
    obtain ⟨j, T, hj, rfl, hq⟩ := hA.pq h9
    have e := hA.2.1.2.1
    exact ⟨0, _, _, _, _, k_L_sampledWeight l G ad o sg (nI j) gr ou fo h9 h.2, k_X7_sampledWeight l G ae u r (nI j) gr h9 h.2 (by rw [e]; exact hq.h16) (by rw [e]; exact hq.hrs), rfl, fun _ => pk_uLs.trans (congrArg Int32.toInt64 ((by rw [e]; exact hq.wsum gr))), ⟨k, w, n0, n1, hA.mp⟩⟩
  · exact ⟨1, _, _, _, _, k1_L_sampledWeight l hl0 G ad o sg st gr ou fo h, kn_X7_sampledWeight l G ae u r st gr h, rfl, fun hh => absurd hh (by decide), ⟨k, w, n0, n1, hA⟩⟩

set_option maxRecDepth 100000 in
theorem ag_distinctSize (l : Launch) (hl0 : l.stackTraces = false) (G : GT) (ad : Nat → Nat) (o : Nat) (ae : Nat → Nat) (u : Nat) {sg : RRT} {r : MoT} (hR : Rel sg r) (st : Int32) (ou : Nat) (fo : Nat → Int64) : AgI l yL_distinctSize wsL_distinctSize { frames := 8, cells := 1, slots := 6, locals := 143 } yX7_distinctSize wsX7_distinctSize { frames := 3, cells := 0, slots := 0, locals := 69 } G ad o ae u sg r ou fo [.ref (ad o), .int st, .ref ou] [.ref (ae u), .int st] := by
  obtain ⟨k, w, n0, n1, hA⟩ := hR
  by_cases h9 : okA st 0 2
  · obtain ⟨j, T, hj, rfl, hq⟩ := hA.dq h9
    have e := hA.2.1.2.1
    exact ⟨0, _, _, _, _, k_L_distinctSize l G ad o sg (nI j) ou fo h9, k_X7_distinctSize l G ae u r (nI j) h9, rfl, fun _ => pk_uLs.trans (congrArg Int32.toInt64 ((by rw [e]; exact hq.size))), ⟨k, w, n0, n1, hA.md⟩⟩
  · exact ⟨1, _, _, _, _, k1_L_distinctSize l hl0 G ad o sg st ou fo h9, kn_X7_distinctSize l G ae u r st h9, rfl, fun hh => absurd hh (by decide), ⟨k, w, n0, n1, hA⟩⟩

set_option maxRecDepth 100000 in
theorem ag_distinctItem (l : Launch) (hl0 : l.stackTraces = false) (G : GT) (ad : Nat → Nat) (o : Nat) (ae : Nat → Nat) (u : Nat) {sg : RRT} {r : MoT} (hR : Rel sg r) (st sl : Int32) (ou : Nat) (fo : Nat → Int64) : AgI l yL_distinctItem wsL_distinctItem { frames := 8, cells := 1, slots := 6, locals := 145 } yX7_distinctItem wsX7_distinctItem { frames := 4, cells := 0, slots := 0, locals := 93 } G ad o ae u sg r ou fo [.ref (ad o), .int st, .int sl, .ref ou] [.ref (ae u), .int st, .int sl] := by
  obtain ⟨k, w, n0, n1, hA⟩ := hR
  by_cases h9 : okA st 0 2
  · obtain ⟨j, T, hj, rfl, hq⟩ := hA.dq h9
    have e := hA.2.1.2.1
    by_cases c : okP sl (rrDis sg (nI j)).2.1
    · exact ⟨0, _, _, _, _, k_L_distinctItem l G ad o sg (nI j) sl ou fo h9 c, k_X7_distinctItem l G ae u r (nI j) sl h9 (by rw [e]; exact hq.place.mp c) (hq.found c), rfl, fun _ => pk_uLs.trans (congrArg Int32.toInt64 (hq.item c)), ⟨k, w, n0, n1, hA.md⟩⟩
    · exact ⟨2, _, _, _, _, k2_L_distinctItem l hl0 G ad o sg (nI j) sl ou fo h9 c, km_X7_distinctItem l G ae u r (nI j) sl h9 (by rw [e]; exact fun hh => c (hq.place.mpr hh)), rfl, fun hh => absurd hh (by decide), ⟨k, w, n0, n1, hA.md⟩⟩
  · exact ⟨1, _, _, _, _, k1_L_distinctItem l hl0 G ad o sg st sl ou fo h9, kn_X7_distinctItem l G ae u r st sl h9, rfl, fun hh => absurd hh (by decide), ⟨k, w, n0, n1, hA⟩⟩

set_option maxRecDepth 100000 in
theorem ag_distinctOffers (l : Launch) (hl0 : l.stackTraces = false) (G : GT) (ad : Nat → Nat) (o : Nat) (ae : Nat → Nat) (u : Nat) {sg : RRT} {r : MoT} (hR : Rel sg r) (st sl : Int32) (ou : Nat) (fo : Nat → Int64) : AgI l yL_distinctOffers wsL_distinctOffers { frames := 8, cells := 1, slots := 6, locals := 145 } yX7_distinctOffers wsX7_distinctOffers { frames := 4, cells := 0, slots := 0, locals := 93 } G ad o ae u sg r ou fo [.ref (ad o), .int st, .int sl, .ref ou] [.ref (ae u), .int st, .int sl] := by
  obtain ⟨k, w, n0, n1, hA⟩ := hR
  by_cases h9 : okA st 0 2
  · obtain ⟨j, T, hj, rfl, hq⟩ := hA.dq h9
    have e := hA.2.1.2.1
    by_cases c : okP sl (rrDis sg (nI j)).2.1
    · exact ⟨0, _, _, _, _, k_L_distinctOffers l G ad o sg (nI j) sl ou fo h9 c, k_X7_distinctOffers l G ae u r (nI j) sl h9 (by rw [e]; exact hq.place.mp c) (hq.found c), rfl, fun _ => pk_uLs.trans (congrArg Int32.toInt64 (hq.offers c)), ⟨k, w, n0, n1, hA.md⟩⟩
    · exact ⟨2, _, _, _, _, k2_L_distinctOffers l hl0 G ad o sg (nI j) sl ou fo h9 c, km_X7_distinctOffers l G ae u r (nI j) sl h9 (by rw [e]; exact fun hh => c (hq.place.mpr hh)), rfl, fun hh => absurd hh (by decide), ⟨k, w, n0, n1, hA.md⟩⟩
  · exact ⟨1, _, _, _, _, k1_L_distinctOffers l hl0 G ad o sg st sl ou fo h9, kn_X7_distinctOffers l G ae u r st sl h9, rfl, fun hh => absurd hh (by decide), ⟨k, w, n0, n1, hA⟩⟩

set_option maxRecDepth 100000 in
theorem ag_distinctEstimate (l : Launch) (hl0 : l.stackTraces = false) (G : GT) (ad : Nat → Nat) (o : Nat) (ae : Nat → Nat) (u : Nat) {sg : RRT} {r : MoT} (hR : Rel sg r) (st : Int32) (ou : Nat) (fo : Nat → Int64) : AgL l yL_distinctEstimate wsL_distinctEstimate { frames := 8, cells := 1, slots := 6, locals := 143 } yX7_distinctEstimate wsX7_distinctEstimate { frames := 3, cells := 0, slots := 0, locals := 69 } G ad o ae u sg r ou fo [.ref (ad o), .int st, .ref ou] [.ref (ae u), .int st] := by
  obtain ⟨k, w, n0, n1, hA⟩ := hR
  by_cases h9 : okA st 0 2
  · obtain ⟨j, T, hj, rfl, hq⟩ := hA.dq h9
    have e := hA.2.1.2.1
    exact ⟨0, _, _, _, _, k_L_distinctEstimate l G ad o sg (nI j) ou fo h9, k_X7_distinctEstimate l G ae u r (nI j) h9 (by rw [e]; exact fun hh => hq.lastOk hh), rfl, fun _ => pk_uLs.trans ((by rw [e]; exact hq.est)), ⟨k, w, n0, n1, hA.md⟩⟩
  · exact ⟨1, _, _, _, _, k1_L_distinctEstimate l hl0 G ad o sg st ou fo h9, kn_X7_distinctEstimate l G ae u r st h9, rfl, fun hh => absurd hh (by decide), ⟨k, w, n0, n1, hA⟩⟩

set_option maxRecDepth 100000 in
theorem ag_windowItem (l : Launch) (hl0 : l.stackTraces = false) (G : GT) (ad : Nat → Nat) (o : Nat) (ae : Nat → Nat) (u : Nat) {sg : RRT} {r : MoT} (hR : Rel sg r) (st : Int32) (ou : Nat) (fo : Nat → Int64) : AgI l yL_windowItem wsL_windowItem { frames := 8, cells := 1, slots := 6, locals := 144 } yX7_windowItem wsX7_windowItem { frames := 2, cells := 0, slots := 0, locals := 46 } G ad o ae u sg r ou fo [.ref (ad o), .int st, .ref ou] [.ref (ae u), .int st] := by
  obtain ⟨k, w, n0, n1, hA⟩ := hR
  by_cases h : okA st 0 1
  · obtain ⟨j, n, hS⟩ := hA.s1 h
    by_cases c : n = 0
    · exact ⟨2, _, _, _, _, k2_L_windowItem l hl0 G ad o sg st ou fo h (hS.zero.1.mpr c), km_X7_windowItem l G ae u r st h (hS.zero.2.mpr c), rfl, fun hh => absurd hh (by decide), ⟨k, w, n0, n1, hA⟩⟩
    · exact ⟨0, _, _, _, _, k_L_windowItem l G ad o sg st ou fo h (fun hh => c (hS.zero.1.mp hh)), k_X7_windowItem l G ae u r st h (fun hh => c (hS.zero.2.mp hh)) hS.hw n hS.2.1.2.2.2.1 hS.2.1.2.2.1 hS.hBn (hS.rc _).2 (hS.wItem c _).1, rfl, fun _ => pk_uLs.trans (congrArg Int32.toInt64 ((hS.wItem c _).2.1)), ⟨k, w, n0, n1, hA⟩⟩
  · exact ⟨1, _, _, _, _, k1_L_windowItem l hl0 G ad o sg st ou fo h, kn_X7_windowItem l G ae u r st h, rfl, fun hh => absurd hh (by decide), ⟨k, w, n0, n1, hA⟩⟩

set_option maxRecDepth 100000 in
theorem ag_windowPosition (l : Launch) (hl0 : l.stackTraces = false) (G : GT) (ad : Nat → Nat) (o : Nat) (ae : Nat → Nat) (u : Nat) {sg : RRT} {r : MoT} (hR : Rel sg r) (st : Int32) (ou : Nat) (fo : Nat → Int64) : AgI l yL_windowPosition wsL_windowPosition { frames := 8, cells := 1, slots := 6, locals := 144 } yX7_windowPosition wsX7_windowPosition { frames := 2, cells := 0, slots := 0, locals := 46 } G ad o ae u sg r ou fo [.ref (ad o), .int st, .ref ou] [.ref (ae u), .int st] := by
  obtain ⟨k, w, n0, n1, hA⟩ := hR
  by_cases h : okA st 0 1
  · obtain ⟨j, n, hS⟩ := hA.s1 h
    by_cases c : n = 0
    · exact ⟨2, _, _, _, _, k2_L_windowPosition l hl0 G ad o sg st ou fo h (hS.zero.1.mpr c), km_X7_windowPosition l G ae u r st h (hS.zero.2.mpr c), rfl, fun hh => absurd hh (by decide), ⟨k, w, n0, n1, hA⟩⟩
    · exact ⟨0, _, _, _, _, k_L_windowPosition l G ad o sg st ou fo h (fun hh => c (hS.zero.1.mp hh)), k_X7_windowPosition l G ae u r st h (fun hh => c (hS.zero.2.mp hh)) hS.hw n hS.2.1.2.2.2.1 hS.2.1.2.2.1 hS.hBn (hS.rc _).2, rfl, fun _ => pk_uLs.trans (congrArg Int32.toInt64 ((hS.wItem c _).2.2)), ⟨k, w, n0, n1, hA⟩⟩
  · exact ⟨1, _, _, _, _, k1_L_windowPosition l hl0 G ad o sg st ou fo h, kn_X7_windowPosition l G ae u r st h, rfl, fun hh => absurd hh (by decide), ⟨k, w, n0, n1, hA⟩⟩

set_option maxRecDepth 100000 in
theorem ag_successor (l : Launch) (hl0 : l.stackTraces = false) (G : GT) (ad : Nat → Nat) (o : Nat) (ae : Nat → Nat) (u : Nat) {sg : RRT} {r : MoT} (hR : Rel sg r) (st : Int32) (ou : Nat) (fo : Nat → Int64) : AgI l yL_successor wsL_successor { frames := 8, cells := 1, slots := 6, locals := 144 } yX7_successor wsX7_successor { frames := 2, cells := 0, slots := 0, locals := 46 } G ad o ae u sg r ou fo [.ref (ad o), .int st, .ref ou] [.ref (ae u), .int st] := by
  obtain ⟨k, w, n0, n1, hA⟩ := hR
  by_cases h : okA st 0 1
  · obtain ⟨j, n, hS⟩ := hA.s1 h
    by_cases c : n = 0
    · exact ⟨2, _, _, _, _, k2_L_successor l hl0 G ad o sg st ou fo h (hS.zero.1.mpr c), km_X7_successor l G ae u r st h (hS.zero.2.mpr c), rfl, fun hh => absurd hh (by decide), ⟨k, w, n0, n1, hA⟩⟩
    · exact ⟨0, _, _, _, _, k_L_successor l G ad o sg st ou fo h (fun hh => c (hS.zero.1.mp hh)), k_X7_successor l G ae u r st h (fun hh => c (hS.zero.2.mp hh)) hS.hw n hS.2.1.2.2.2.1 hS.2.1.2.2.1 hS.hBn (hS.rc _).2, rfl, fun _ => pk_uLs.trans (congrArg Int32.toInt64 (hS.cNext _)), ⟨k, w, n0, n1, hA⟩⟩
  · exact ⟨1, _, _, _, _, k1_L_successor l hl0 G ad o sg st ou fo h, kn_X7_successor l G ae u r st h, rfl, fun hh => absurd hh (by decide), ⟨k, w, n0, n1, hA⟩⟩

set_option maxRecDepth 100000 in
theorem ag_chainLength (l : Launch) (hl0 : l.stackTraces = false) (G : GT) (ad : Nat → Nat) (o : Nat) (ae : Nat → Nat) (u : Nat) {sg : RRT} {r : MoT} (hR : Rel sg r) (st : Int32) (ou : Nat) (fo : Nat → Int64) : AgI l yL_chainLength wsL_chainLength { frames := 8, cells := 1, slots := 6, locals := 143 } yX7_chainLength wsX7_chainLength { frames := 2, cells := 0, slots := 0, locals := 44 } G ad o ae u sg r ou fo [.ref (ad o), .int st, .ref ou] [.ref (ae u), .int st] := by
  obtain ⟨k, w, n0, n1, hA⟩ := hR
  by_cases h : okA st 0 1
  · obtain ⟨j, n, hS⟩ := hA.s1 h
    exact ⟨0, _, _, _, _, k_L_chainLength l G ad o sg st ou fo h, k_X7_chainLength l G ae u r st h hS.hw n hS.2.1.2.2.2.1 hS.2.1.2.2.1 hS.hBn (hS.rc _).2, rfl, fun _ => pk_uLs.trans (congrArg Int32.toInt64 (hS.cLen _)), ⟨k, w, n0, n1, hA⟩⟩
  · exact ⟨1, _, _, _, _, k1_L_chainLength l hl0 G ad o sg st ou fo h, kn_X7_chainLength l G ae u r st h, rfl, fun hh => absurd hh (by decide), ⟨k, w, n0, n1, hA⟩⟩
