set_option maxHeartbeats 4000000 in
set_option maxRecDepth 100000 in
/-- the law's loop: behind t calls class and reference agree -/
theorem law_loop {p : Program} {l : Launch} {e : Env} {s : State} {m : MethodId} {below : List Frame} {meth : Method} {c : Code} {G : GT} {b L : Nat} {xs : Nat → Int32} (C : LawAt p l s m meth c b L xs G) {ad ae : Nat → Nat} {ou : Nat} :
    ∀ (n t cells slots : Nat), 7 * t ≤ L → L < 7 * t + n → cells = 81 + t → slots = 5861 + 6 * t → ∀ (sg : RRT) (r : MoT) (fo : Nat → Int64) (H : Heap) (locs : List Loc) (ls : Array Slot), Rel sg r → va_P G.1 vwCl (([(ou, .inl (G.2.2.2, 1, .inr (.inl fo)))] ++ (wRR G ad 0 sg)) ++ wMo G ae 0 r) H → va_D (fun q : Nat => s.heap.size ≤ q) (([(ou, .inl (G.2.2.2, 1, .inr (.inl fo)))] ++ (wRR G ad 0 sg)) ++ wMo G ae 0 r) → va_S (fun q : Nat => s.heap.size ≤ q) s.heap H locs → lv_has ls 8 [(0, .ref b), (1, .ref (ad 0)), (2, .ref (ae 0)), (3, .ref ou), (4, .int (nI (7 * t)))] →
      W p l e room_1 s m #[Value.ref b] below meth c H locs cells slots (lw_Z below #[Value.ref b] s) (F0 m 23 ls []) := by
  have C9 := C
  obtain ⟨⟨hx, hb, hr, hml, hown, hts0, hX, hbl, hlocks, hgv⟩, hl0, hY, hZ, hL⟩ := C
  have hbA : ¬ (fun q : Nat => s.heap.size ≤ q) b := Nat.not_le.mpr hbl
  intro n
  induction n with
  | zero => intro t cells slots h1 h2; exact absurd h2 (by omega)
  | succ n ih =>
    intro t cells slots h1 h2 h3 h4 sg r fo H locs ls hR hP hD hS hl
    refine lv_iload hx hb dL_law_23 (lv_at hl 4 rfl) ?_
    refine lv_aload_n hx hb dL_law_25 rfl (lv_at hl 0 rfl) ?_
    refine va_slen hx hb hX hbl hbA hS dL_law_26 ?_
    refine lv_bipush (v := 7) hx hb dL_law_27 (by decide) ?_
    refine lv_isub hx hb dL_law_29 ?_
    have hcmp : (Int32.ofNat L - 7 < nI (7 * t)) ↔ L < 7 * t + 7 := by
      rw [Int32.lt_iff_toInt_lt, show Int32.ofNat L - 7 = nI L - nI 7 from rfl, pk_sub_toInt (by omega) (by omega), nI_toInt (by omega)]
      omega
    refine lv_icmp_gt (tgt := 1696) hx hb dL_law_30 (by decide) (fun hg => ?_) (fun hg => ?_)
    · refine lv_iconst (v := 1) hx hb dL_law_1696 (by decide) ?_
      refine va_forget (fun q hq => hS.2.2 q hq) ?_
      refine W.widen (k := 1108) (n := 14071) (by omega) (by omega) ?_
      exact lw_ret hx hb hr hlocks dL_law_1697
    · have hi : 7 * t + 7 ≤ L := by
        rcases Nat.lt_or_ge L (7 * t + 7) with q | q
        · exact absurd (hcmp.mpr q) hg
        · exact q
      have fin : ∀ (sg : RRT) (r : MoT) (fo : Nat → Int64) (H : Heap) (locs : List Loc) (ls : Array Slot), Rel sg r → va_P G.1 vwCl (([(ou, .inl (G.2.2.2, 1, .inr (.inl fo)))] ++ (wRR G ad 0 sg)) ++ wMo G ae 0 r) H → va_D (fun q : Nat => s.heap.size ≤ q) (([(ou, .inl (G.2.2.2, 1, .inr (.inl fo)))] ++ (wRR G ad 0 sg)) ++ wMo G ae 0 r) → va_S (fun q : Nat => s.heap.size ≤ q) s.heap H locs → lv_has ls 8 [(0, .ref b), (1, .ref (ad 0)), (2, .ref (ae 0)), (3, .ref ou), (4, .int (nI (7 * t)))] → W p l e room_1 s m #[Value.ref b] below meth c H locs (cells + 1) (slots + 6) (lw_Z below #[Value.ref b] s) (F0 m 1690 ls []) := by
        intro sg r fo H locs ls hR hP hD hS hl
        refine lv_iinc (v := nI (7 * t) + 7) (lv' := [(4, .int (nI (7 * t) + 7)), (0, .ref b), (1, .ref (ad 0)), (2, .ref (ae 0)), (3, .ref ou)]) hx hb dL_law_1690 hl (k := 4) rfl rfl (by decide) rfl (fun ls hl => ?_)
        rw [show nI (7 * t) + 7 = nI (7 * (t + 1)) from nI_add (7 * t) 7] at hl
        refine lv_goto (tgt := 23) hx hb dL_law_1693 (by decide) ?_
        exact ih (t + 1) (cells + 1) (slots + 6) (by omega) (by omega) (by omega) (by omega) sg r fo H locs ls hR hP hD hS (lv_sub hl [1, 2, 3, 4, 0] rfl)
      have hc : cells + 1 ≤ 1108 := by omega
      have hsl : slots + 6 ≤ 14071 := by omega
      refine lv_aload_n hx hb dL_law_33 rfl (lv_at hl 0 rfl) ?_
      refine lv_iload hx hb dL_law_34 (lv_at hl 4 rfl) ?_
      refine va_sld hx hb hX hbl hbA hS (vp_in_nI (by omega) (by omega)) dL_law_36 ?_
      refine lv_bipush (v := 31) hx hb dL_law_37 (by decide) ?_
      refine lv_iand hx hb dL_law_39 ?_
      obtain ⟨v, hv, ev⟩ := pk_andE (xs (nI (7 * t)).toNatClampNeg) (m := 31) 5 (by decide)
      rw [ev]
      rcases Nat.lt_or_ge v 24 with q | q
      · have hv2 : v = 0 ∨ v = 1 ∨ v = 2 ∨ v = 3 ∨ v = 4 ∨ v = 5 ∨ v = 6 ∨ v = 7 ∨ v = 8 ∨ v = 9 ∨ v = 10 ∨ v = 11 ∨ v = 12 ∨ v = 13 ∨ v = 14 ∨ v = 15 ∨ v = 16 ∨ v = 17 ∨ v = 18 ∨ v = 19 ∨ v = 20 ∨ v = 21 ∨ v = 22 ∨ v = 23 := by omega
        rcases hv2 with rfl | rfl | rfl | rfl | rfl | rfl | rfl | rfl | rfl | rfl | rfl | rfl | rfl | rfl | rfl | rfl | rfl | rfl | rfl | rfl | rfl | rfl | rfl | rfl
        · refine lv_tableIn (tgt := 152) hx hb dL_law_40 (by decide) (by decide) (off := 112) (by rfl) (by decide) ?_
          exact lc_begin C9 hi hR hc hsl hP hD hS hl fin
        · refine lv_tableIn (tgt := 200) hx hb dL_law_40 (by decide) (by decide) (off := 160) (by rfl) (by decide) ?_
          exact lc_offer C9 hi hR hc hsl hP hD hS hl fin
        · refine lv_tableIn (tgt := 318) hx hb dL_law_40 (by decide) (by decide) (off := 278) (by rfl) (by decide) ?_
          exact lc_clear C9 hi hR hc hsl hP hD hS hl fin
        · refine lv_tableIn (tgt := 374) hx hb dL_law_40 (by decide) (by decide) (off := 334) (by rfl) (by decide) ?_
          exact lc_offers C9 hi hR hc hsl hP hD hS hl fin
        · refine lv_tableIn (tgt := 430) hx hb dL_law_40 (by decide) (by decide) (off := 390) (by rfl) (by decide) ?_
          exact lc_exactWeight C9 hi hR hc hsl hP hD hS hl fin
        · refine lv_tableIn (tgt := 498) hx hb dL_law_40 (by decide) (by decide) (off := 458) (by rfl) (by decide) ?_
          exact lc_reservoirSize C9 hi hR hc hsl hP hD hS hl fin
        · refine lv_tableIn (tgt := 554) hx hb dL_law_40 (by decide) (by decide) (off := 514) (by rfl) (by decide) ?_
          exact lc_reservoirItem C9 hi hR hc hsl hP hD hS hl fin
        · refine lv_tableIn (tgt := 622) hx hb dL_law_40 (by decide) (by decide) (off := 582) (by rfl) (by decide) ?_
          exact lc_reservoirPosition C9 hi hR hc hsl hP hD hS hl fin
        · refine lv_tableIn (tgt := 690) hx hb dL_law_40 (by decide) (by decide) (off := 650) (by rfl) (by decide) ?_
          exact lc_groupOffers C9 hi hR hc hsl hP hD hS hl fin
        · refine lv_tableIn (tgt := 758) hx hb dL_law_40 (by decide) (by decide) (off := 718) (by rfl) (by decide) ?_
          exact lc_groupItem C9 hi hR hc hsl hP hD hS hl fin
        · refine lv_tableIn (tgt := 838) hx hb dL_law_40 (by decide) (by decide) (off := 798) (by rfl) (by decide) ?_
          exact lc_prioritySize C9 hi hR hc hsl hP hD hS hl fin
        · refine lv_tableIn (tgt := 894) hx hb dL_law_40 (by decide) (by decide) (off := 854) (by rfl) (by decide) ?_
          exact lc_priorityItem C9 hi hR hc hsl hP hD hS hl fin
        · refine lv_tableIn (tgt := 962) hx hb dL_law_40 (by decide) (by decide) (off := 922) (by rfl) (by decide) ?_
          exact lc_estimatedWeight C9 hi hR hc hsl hP hD hS hl fin
        · refine lv_tableIn (tgt := 1029) hx hb dL_law_40 (by decide) (by decide) (off := 989) (by rfl) (by decide) ?_
          exact lc_threshold C9 hi hR hc hsl hP hD hS hl fin
        · refine lv_tableIn (tgt := 1084) hx hb dL_law_40 (by decide) (by decide) (off := 1044) (by rfl) (by decide) ?_
          exact lc_estimate C9 hi hR hc hsl hP hD hS hl fin
        · refine lv_tableIn (tgt := 1151) hx hb dL_law_40 (by decide) (by decide) (off := 1111) (by rfl) (by decide) ?_
          exact lc_sampledWeight C9 hi hR hc hsl hP hD hS hl fin
        · refine lv_tableIn (tgt := 1219) hx hb dL_law_40 (by decide) (by decide) (off := 1179) (by rfl) (by decide) ?_
          exact lc_distinctSize C9 hi hR hc hsl hP hD hS hl fin
        · refine lv_tableIn (tgt := 1275) hx hb dL_law_40 (by decide) (by decide) (off := 1235) (by rfl) (by decide) ?_
          exact lc_distinctItem C9 hi hR hc hsl hP hD hS hl fin
        · refine lv_tableIn (tgt := 1343) hx hb dL_law_40 (by decide) (by decide) (off := 1303) (by rfl) (by decide) ?_
          exact lc_distinctOffers C9 hi hR hc hsl hP hD hS hl fin
        · refine lv_tableIn (tgt := 1411) hx hb dL_law_40 (by decide) (by decide) (off := 1371) (by rfl) (by decide) ?_
          exact lc_distinctEstimate C9 hi hR hc hsl hP hD hS hl fin
        · refine lv_tableIn (tgt := 1466) hx hb dL_law_40 (by decide) (by decide) (off := 1426) (by rfl) (by decide) ?_
          exact lc_windowItem C9 hi hR hc hsl hP hD hS hl fin
        · refine lv_tableIn (tgt := 1522) hx hb dL_law_40 (by decide) (by decide) (off := 1482) (by rfl) (by decide) ?_
          exact lc_windowPosition C9 hi hR hc hsl hP hD hS hl fin
        · refine lv_tableIn (tgt := 1578) hx hb dL_law_40 (by decide) (by decide) (off := 1538) (by rfl) (by decide) ?_
          exact lc_chainLength C9 hi hR hc hsl hP hD hS hl fin
        · refine lv_tableIn (tgt := 1634) hx hb dL_law_40 (by decide) (by decide) (off := 1594) (by rfl) (by decide) ?_
          exact lc_successor C9 hi hR hc hsl hP hD hS hl fin
      · refine lv_tableOut (tgt := 1690) hx hb dL_law_40 (Or.inr (by rw [nI_toInt (by omega)]; omega)) (by decide) ?_
        refine W.widen (k := cells + 1) (n := slots + 6) (by omega) (by omega) ?_
        exact fin sg r fo H locs ls hR hP hD hS hl
