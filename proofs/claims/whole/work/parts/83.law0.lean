set_option maxHeartbeats 4000000 in
set_option maxRecDepth 100000 in
theorem lc_begin {p : Program} {l : Launch} {e : Env} {s : State} {m : MethodId} {below : List Frame} {meth : Method} {c : Code} {G : GT} {b L : Nat} {xs : Nat → Int32} {Q : State → Prop} (C : LawAt p l s m meth c b L xs G) {i : Nat} (hi : i + 7 ≤ L) {ad ae : Nat → Nat} {ou : Nat} {sg : RRT} {r : MoT} {fo : Nat → Int64} (hR : Rel sg r) {H : Heap} {locs : List Loc} {cells slots : Nat} (hc : cells + 1 ≤ 1108) (hsl : slots + 6 ≤ 14071) (hP : va_P G.1 vwCl (([(ou, .inl (G.2.2.2, 1, .inr (.inl fo)))] ++ (wRR G ad 0 sg)) ++ wMo G ae 0 r) H) (hD : va_D (fun q : Nat => s.heap.size ≤ q) (([(ou, .inl (G.2.2.2, 1, .inr (.inl fo)))] ++ (wRR G ad 0 sg)) ++ wMo G ae 0 r)) (hS : va_S (fun q : Nat => s.heap.size ≤ q) s.heap H locs) {ls : Array Slot} (hl : lv_has ls 8 [(0, .ref b), (1, .ref (ad 0)), (2, .ref (ae 0)), (3, .ref ou), (4, .int (nI i))])
    (next : ∀ (sg : RRT) (r : MoT) (fo : Nat → Int64) (H : Heap) (locs : List Loc) (ls : Array Slot), Rel sg r → va_P G.1 vwCl (([(ou, .inl (G.2.2.2, 1, .inr (.inl fo)))] ++ (wRR G ad 0 sg)) ++ wMo G ae 0 r) H → va_D (fun q : Nat => s.heap.size ≤ q) (([(ou, .inl (G.2.2.2, 1, .inr (.inl fo)))] ++ (wRR G ad 0 sg)) ++ wMo G ae 0 r) → va_S (fun q : Nat => s.heap.size ≤ q) s.heap H locs → lv_has ls 8 [(0, .ref b), (1, .ref (ad 0)), (2, .ref (ae 0)), (3, .ref ou), (4, .int (nI i))] → W p l e room_1 s m #[Value.ref b] below meth c H locs (cells + 1) (slots + 6) Q (F0 m 1690 ls [])) :
    W p l e room_1 s m #[Value.ref b] below meth c H locs cells slots Q (F0 m 152 ls []) := by
  obtain ⟨⟨hx, hb, hr, hml, hown, hts0, hX, hbl, hlocks, hgv⟩, hl0, hY, hZ, hL⟩ := C
  have hts : ∀ w ∈ wsL_law, w.before #[Value.ref b] s = true := fun w h => hts0 w (wsL_law_in w h)
  have hown : s.vm.findClass RL = some m.cls := hown
  have CF : CallFix p m c cL_law 8 s #[Value.ref b] wsL_law RL := ⟨hx, hb, hml, hown, hts⟩
  have hA : ∀ q : Nat, s.heap.size ≤ q → (fun q : Nat => s.heap.size ≤ q) q := fun _ h => h
  have hbA : ¬ (fun q : Nat => s.heap.size ≤ q) b := Nat.not_le.mpr hbl
  refine lv_aload_n hx hb dL_law_152 rfl (lv_at hl 1 rfl) ?_
  refine lv_aload_n hx hb dL_law_153 rfl (lv_at hl 0 rfl) ?_
  refine lv_iload hx hb dL_law_154 (lv_at hl 4 rfl) ?_
  refine lv_iconst (v := 1) hx hb dL_law_156 (by decide) ?_
  refine lv_iadd hx hb dL_law_157 ?_
  refine va_sld hx hb hX hbl hbA hS (ix_1 hi hL) dL_law_158 ?_
  refine lv_aload_n hx hb dL_law_159 rfl (lv_at hl 0 rfl) ?_
  refine lv_iload hx hb dL_law_160 (lv_at hl 4 rfl) ?_
  refine lv_iconst (v := 2) hx hb dL_law_162 (by decide) ?_
  refine lv_iadd hx hb dL_law_163 ?_
  refine va_sld hx hb hX hbl hbA hS (ix_2 hi hL) dL_law_164 ?_
  obtain ⟨kk, sg1, r1, hC, hM, e1, hR1⟩ := ag_begin l hl0 G ad 0 ae 0 hR (xs (nI i + 1).toNatClampNeg) (xs (nI i + 2).toNatClampNeg)
  rw [List.append_assoc] at hP hD
  refine caS [(ou, .inl (G.2.2.2, 1, .inr (.inl fo)))] (wRR G ad 0 sg) (wMo G ae 0 r) (wRR G ad 0 sg1) (As := [.ref (ad 0), .int (xs (nI i + 1).toNatClampNeg), .int (xs (nI i + 2).toNatClampNeg)]) (rest := []) CF hC (vx_cwSW 3 hts gL_law_L_begin rfl rfl rfl (by decide +kernel) ⟨Nat.le_of_ble_eq_true rfl, Nat.le_of_ble_eq_true rfl⟩) hP hD hS hA hY hZ (fst_RR _ _ _ _ _) rfl hl.1 rfl (lv_room (Nat.le_of_ble_eq_true rfl)) dL_law_165 ⟨hc, hsl⟩ (fun H locs hP hD hS => ?_)
  rw [← List.append_assoc] at hP hD
  have hP : va_P G.1 vwCl (([(ou, .inl (G.2.2.2, 1, .inr (.inl fo)))] ++ (wRR G ad 0 sg1)) ++ wMo G ae 0 r) H := hP
  have hD : va_D (fun q : Nat => s.heap.size ≤ q) (([(ou, .inl (G.2.2.2, 1, .inr (.inl fo)))] ++ (wRR G ad 0 sg1)) ++ wMo G ae 0 r) := hD
  refine lv_istore (lv' := [(5, .int kk), (0, .ref b), (1, .ref (ad 0)), (2, .ref (ae 0)), (3, .ref ou), (4, .int (nI i))]) hx hb dL_law_168 hl (by decide) rfl (fun ls hl => ?_)
  refine lv_aload_n hx hb dL_law_170 rfl (lv_at hl 3 rfl) ?_
  refine lv_aload_n hx hb dL_law_171 rfl (lv_at hl 1 rfl) ?_
  refine lv_iload hx hb dL_law_172 (lv_at hl 5 rfl) ?_
  refine lv_iconst (v := 1) hx hb dL_law_174 (by decide) ?_
  refine lv_iadd hx hb dL_law_175 ?_
  refine va_sld hx hb hX hbl hbA hS (ix_1 hi hL) dL_law_176 ?_
  refine lv_aload_n hx hb dL_law_177 rfl (lv_at hl 1 rfl) ?_
  refine lv_iload hx hb dL_law_178 (lv_at hl 5 rfl) ?_
  refine lv_iconst (v := 2) hx hb dL_law_180 (by decide) ?_
  refine lv_iadd hx hb dL_law_181 ?_
  refine va_sld hx hb hX hbl hbA hS (ix_2 hi hL) dL_law_182 ?_
  rw [← List.append_nil (wMo G ae 0 r)] at hP hD
  refine wrV ([(ou, .inl (G.2.2.2, 1, .inr (.inl fo)))] ++ (wRR G ad 0 sg1)) (wMo G ae 0 r) [] (wMo G ae 0 r1) (As := [.int (xs (nI i + 1).toNatClampNeg), .int (xs (nI i + 2).toNatClampNeg)]) (rest := []) CF hM (cwV 2 hts gL_law_X7_begin rfl rfl rfl (by decide +kernel) ⟨Nat.le_of_ble_eq_true rfl, Nat.le_of_ble_eq_true rfl⟩) hP hD hS hA hY rfl rfl (fst_Mo _ _ _ _ _) rfl hl.1 rfl (lv_room (Nat.le_of_ble_eq_true rfl)) dL_law_183 ⟨(show cells + 1 ≤ 1108 from hc), (show slots + 6 ≤ 14071 from hsl)⟩ (fun H locs hP hD hS => ?_)
  rw [List.append_nil] at hP hD
  refine lv_aload_n hx hb dL_law_186 rfl (lv_at hl 3 rfl) ?_
  refine rdV (w0 := (wMo G ae 0 r1)) (As := []) (rest := []) CF (k_X7_thrown l G ae 0 r1) (cwV 0 hts gL_law_X7_thrown rfl rfl rfl (by decide +kernel) ⟨Nat.le_of_ble_eq_true rfl, Nat.le_of_ble_eq_true rfl⟩) hP.apr hY rfl rfl rfl hl.1 rfl (lv_room (Nat.le_of_ble_eq_true rfl)) dL_law_187 ⟨(show cells + 1 ≤ 1108 from hc), (show slots + 6 ≤ 14071 from hsl)⟩ ?_
  refine lv_iload hx hb dL_law_190 (lv_at hl 0 rfl) ?_
  refine lv_icmp_eq (tgt := 197) hx hb dL_law_192 (by decide) (fun _ => ?_) (fun hh => absurd e1 hh)
  refine lv_goto (tgt := 1690) hx hb dL_law_197 (by decide) ?_
  exact next sg1 r1 fo H locs ls hR1 hP hD hS (lv_sub hl [1, 2, 3, 4, 5] rfl)

set_option maxHeartbeats 4000000 in
set_option maxRecDepth 100000 in
theorem lc_offer {p : Program} {l : Launch} {e : Env} {s : State} {m : MethodId} {below : List Frame} {meth : Method} {c : Code} {G : GT} {b L : Nat} {xs : Nat → Int32} {Q : State → Prop} (C : LawAt p l s m meth c b L xs G) {i : Nat} (hi : i + 7 ≤ L) {ad ae : Nat → Nat} {ou : Nat} {sg : RRT} {r : MoT} {fo : Nat → Int64} (hR : Rel sg r) {H : Heap} {locs : List Loc} {cells slots : Nat} (hc : cells + 1 ≤ 1108) (hsl : slots + 6 ≤ 14071) (hP : va_P G.1 vwCl (([(ou, .inl (G.2.2.2, 1, .inr (.inl fo)))] ++ (wRR G ad 0 sg)) ++ wMo G ae 0 r) H) (hD : va_D (fun q : Nat => s.heap.size ≤ q) (([(ou, .inl (G.2.2.2, 1, .inr (.inl fo)))] ++ (wRR G ad 0 sg)) ++ wMo G ae 0 r)) (hS : va_S (fun q : Nat => s.heap.size ≤ q) s.heap H locs) {ls : Array Slot} (hl : lv_has ls 8 [(0, .ref b), (1, .ref (ad 0)), (2, .ref (ae 0)), (3, .ref ou), (4, .int (nI i))])
    (next : ∀ (sg : RRT) (r : MoT) (fo : Nat → Int64) (H : Heap) (locs : List Loc) (ls : Array Slot), Rel sg r → va_P G.1 vwCl (([(ou, .inl (G.2.2.2, 1, .inr (.inl fo)))] ++ (wRR G ad 0 sg)) ++ wMo G ae 0 r) H → va_D (fun q : Nat => s.heap.size ≤ q) (([(ou, .inl (G.2.2.2, 1, .inr (.inl fo)))] ++ (wRR G ad 0 sg)) ++ wMo G ae 0 r) → va_S (fun q : Nat => s.heap.size ≤ q) s.heap H locs → lv_has ls 8 [(0, .ref b), (1, .ref (ad 0)), (2, .ref (ae 0)), (3, .ref ou), (4, .int (nI i))] → W p l e room_1 s m #[Value.ref b] below meth c H locs (cells + 1) (slots + 6) Q (F0 m 1690 ls [])) :
    W p l e room_1 s m #[Value.ref b] below meth c H locs cells slots Q (F0 m 200 ls []) := by
  obtain ⟨⟨hx, hb, hr, hml, hown, hts0, hX, hbl, hlocks, hgv⟩, hl0, hY, hZ, hL⟩ := C
  have hts : ∀ w ∈ wsL_law, w.before #[Value.ref b] s = true := fun w h => hts0 w (wsL_law_in w h)
  have hown : s.vm.findClass RL = some m.cls := hown
  have CF : CallFix p m c cL_law 8 s #[Value.ref b] wsL_law RL := ⟨hx, hb, hml, hown, hts⟩
  have hA : ∀ q : Nat, s.heap.size ≤ q → (fun q : Nat => s.heap.size ≤ q) q := fun _ h => h
  have hbA : ¬ (fun q : Nat => s.heap.size ≤ q) b := Nat.not_le.mpr hbl
  refine lv_aload_n hx hb dL_law_200 rfl (lv_at hl 1 rfl) ?_
  refine lv_aload_n hx hb dL_law_201 rfl (lv_at hl 0 rfl) ?_
  refine lv_iload hx hb dL_law_202 (lv_at hl 4 rfl) ?_
  refine lv_iconst (v := 1) hx hb dL_law_204 (by decide) ?_
  refine lv_iadd hx hb dL_law_205 ?_
  refine va_sld hx hb hX hbl hbA hS (ix_1 hi hL) dL_law_206 ?_
  refine lv_aload_n hx hb dL_law_207 rfl (lv_at hl 0 rfl) ?_
  refine lv_iload hx hb dL_law_208 (lv_at hl 4 rfl) ?_
  refine lv_iconst (v := 2) hx hb dL_law_210 (by decide) ?_
  refine lv_iadd hx hb dL_law_211 ?_
  refine va_sld hx hb hX hbl hbA hS (ix_2 hi hL) dL_law_212 ?_
  refine lv_aload_n hx hb dL_law_213 rfl (lv_at hl 0 rfl) ?_
  refine lv_iload hx hb dL_law_214 (lv_at hl 4 rfl) ?_
  refine lv_iconst (v := 3) hx hb dL_law_216 (by decide) ?_
  refine lv_iadd hx hb dL_law_217 ?_
  refine va_sld hx hb hX hbl hbA hS (ix_3 hi hL) dL_law_218 ?_
  refine lv_aload_n hx hb dL_law_219 rfl (lv_at hl 0 rfl) ?_
  refine lv_iload hx hb dL_law_220 (lv_at hl 4 rfl) ?_
  refine lv_iconst (v := 4) hx hb dL_law_222 (by decide) ?_
  refine lv_iadd hx hb dL_law_223 ?_
  refine va_sld hx hb hX hbl hbA hS (ix_4 hi hL) dL_law_224 ?_
  refine lv_aload_n hx hb dL_law_225 rfl (lv_at hl 0 rfl) ?_
  refine lv_iload hx hb dL_law_226 (lv_at hl 4 rfl) ?_
  refine lv_iconst (v := 5) hx hb dL_law_228 (by decide) ?_
  refine lv_iadd hx hb dL_law_229 ?_
  refine va_sld hx hb hX hbl hbA hS (ix_5 hi hL) dL_law_230 ?_
  refine lv_aload_n hx hb dL_law_231 rfl (lv_at hl 0 rfl) ?_
  refine lv_iload hx hb dL_law_232 (lv_at hl 4 rfl) ?_
  refine lv_bipush (v := 6) hx hb dL_law_234 (by decide) ?_
  refine lv_iadd hx hb dL_law_236 ?_
  refine va_sld hx hb hX hbl hbA hS (ix_6 hi hL) dL_law_237 ?_
  refine lv_aload_n hx hb dL_law_238 rfl (lv_at hl 3 rfl) ?_
  obtain ⟨kk, fo1, sg1, b1, r1, hC, hM, e1, e2, hR1⟩ := ag_offer l hl0 G ad 0 ae 0 hR (xs (nI i + 1).toNatClampNeg) (xs (nI i + 2).toNatClampNeg) (xs (nI i + 3).toNatClampNeg) (xs (nI i + 4).toNatClampNeg) (xs (nI i + 5).toNatClampNeg) (xs (nI i + 6).toNatClampNeg) ou fo
  refine caS [] ([(ou, .inl (G.2.2.2, 1, .inr (.inl fo)))] ++ (wRR G ad 0 sg)) (wMo G ae 0 r) ([(ou, .inl (G.2.2.2, 1, .inr (.inl fo1)))] ++ (wRR G ad 0 sg1)) (As := [.ref (ad 0), .int (xs (nI i + 1).toNatClampNeg), .int (xs (nI i + 2).toNatClampNeg), .int (xs (nI i + 3).toNatClampNeg), .int (xs (nI i + 4).toNatClampNeg), .int (xs (nI i + 5).toNatClampNeg), .int (xs (nI i + 6).toNatClampNeg), .ref ou]) (rest := []) CF hC (vx_cwSW 8 hts gL_law_L_offer rfl rfl rfl (by decide +kernel) ⟨Nat.le_of_ble_eq_true rfl, Nat.le_of_ble_eq_true rfl⟩) hP hD hS hA hY hZ (fst_LR _ _ _ _ _ _ _ _) rfl hl.1 rfl (lv_room (Nat.le_of_ble_eq_true rfl)) dL_law_239 ⟨hc, hsl⟩ (fun H locs hP hD hS => ?_)
  have hP : va_P G.1 vwCl (([(ou, .inl (G.2.2.2, 1, .inr (.inl fo1)))] ++ (wRR G ad 0 sg1)) ++ wMo G ae 0 r) H := hP
  have hD : va_D (fun q : Nat => s.heap.size ≤ q) (([(ou, .inl (G.2.2.2, 1, .inr (.inl fo1)))] ++ (wRR G ad 0 sg1)) ++ wMo G ae 0 r) := hD
  refine lv_istore (lv' := [(5, .int kk), (0, .ref b), (1, .ref (ad 0)), (2, .ref (ae 0)), (3, .ref ou), (4, .int (nI i))]) hx hb dL_law_242 hl (by decide) rfl (fun ls hl => ?_)
  refine lv_aload_n hx hb dL_law_244 rfl (lv_at hl 3 rfl) ?_
  refine lv_aload_n hx hb dL_law_245 rfl (lv_at hl 1 rfl) ?_
  refine lv_iload hx hb dL_law_246 (lv_at hl 5 rfl) ?_
  refine lv_iconst (v := 1) hx hb dL_law_248 (by decide) ?_
  refine lv_iadd hx hb dL_law_249 ?_
  refine va_sld hx hb hX hbl hbA hS (ix_1 hi hL) dL_law_250 ?_
  refine lv_aload_n hx hb dL_law_251 rfl (lv_at hl 1 rfl) ?_
  refine lv_iload hx hb dL_law_252 (lv_at hl 5 rfl) ?_
  refine lv_iconst (v := 2) hx hb dL_law_254 (by decide) ?_
  refine lv_iadd hx hb dL_law_255 ?_
  refine va_sld hx hb hX hbl hbA hS (ix_2 hi hL) dL_law_256 ?_
  refine lv_aload_n hx hb dL_law_257 rfl (lv_at hl 1 rfl) ?_
  refine lv_iload hx hb dL_law_258 (lv_at hl 5 rfl) ?_
  refine lv_iconst (v := 3) hx hb dL_law_260 (by decide) ?_
  refine lv_iadd hx hb dL_law_261 ?_
  refine va_sld hx hb hX hbl hbA hS (ix_3 hi hL) dL_law_262 ?_
  refine lv_aload_n hx hb dL_law_263 rfl (lv_at hl 1 rfl) ?_
  refine lv_iload hx hb dL_law_264 (lv_at hl 5 rfl) ?_
  refine lv_iconst (v := 4) hx hb dL_law_266 (by decide) ?_
  refine lv_iadd hx hb dL_law_267 ?_
  refine va_sld hx hb hX hbl hbA hS (ix_4 hi hL) dL_law_268 ?_
  refine lv_aload_n hx hb dL_law_269 rfl (lv_at hl 1 rfl) ?_
  refine lv_iload hx hb dL_law_270 (lv_at hl 5 rfl) ?_
  refine lv_iconst (v := 5) hx hb dL_law_272 (by decide) ?_
  refine lv_iadd hx hb dL_law_273 ?_
  refine va_sld hx hb hX hbl hbA hS (ix_5 hi hL) dL_law_274 ?_
  refine lv_aload_n hx hb dL_law_275 rfl (lv_at hl 1 rfl) ?_
  refine lv_iload hx hb dL_law_276 (lv_at hl 5 rfl) ?_
  refine lv_bipush (v := 6) hx hb dL_law_278 (by decide) ?_
  refine lv_iadd hx hb dL_law_280 ?_
  refine va_sld hx hb hX hbl hbA hS (ix_6 hi hL) dL_law_281 ?_
  rw [← List.append_nil (wMo G ae 0 r)] at hP hD
  refine wrV ([(ou, .inl (G.2.2.2, 1, .inr (.inl fo1)))] ++ (wRR G ad 0 sg1)) (wMo G ae 0 r) [] (wMo G ae 0 r1) (As := [.int (xs (nI i + 1).toNatClampNeg), .int (xs (nI i + 2).toNatClampNeg), .int (xs (nI i + 3).toNatClampNeg), .int (xs (nI i + 4).toNatClampNeg), .int (xs (nI i + 5).toNatClampNeg), .int (xs (nI i + 6).toNatClampNeg)]) (rest := []) CF hM (cwV 6 hts gL_law_X7_offer rfl rfl rfl (by decide +kernel) ⟨Nat.le_of_ble_eq_true rfl, Nat.le_of_ble_eq_true rfl⟩) hP hD hS hA hY rfl rfl (fst_Mo _ _ _ _ _) rfl hl.1 rfl (lv_room (Nat.le_of_ble_eq_true rfl)) dL_law_282 ⟨(show cells + 1 ≤ 1108 from hc), (show slots + 6 ≤ 14071 from hsl)⟩ (fun H locs hP hD hS => ?_)
  rw [List.append_nil] at hP hD
  refine lv_istore (lv' := [(6, .int b1), (5, .int kk), (0, .ref b), (1, .ref (ad 0)), (2, .ref (ae 0)), (3, .ref ou), (4, .int (nI i))]) hx hb dL_law_285 hl (by decide) rfl (fun ls hl => ?_)
  refine lv_aload_n hx hb dL_law_287 rfl (lv_at hl 4 rfl) ?_
  refine rdV (w0 := (wMo G ae 0 r1)) (As := []) (rest := []) CF (k_X7_thrown l G ae 0 r1) (cwV 0 hts gL_law_X7_thrown rfl rfl rfl (by decide +kernel) ⟨Nat.le_of_ble_eq_true rfl, Nat.le_of_ble_eq_true rfl⟩) hP.apr hY rfl rfl rfl hl.1 rfl (lv_room (Nat.le_of_ble_eq_true rfl)) dL_law_288 ⟨(show cells + 1 ≤ 1108 from hc), (show slots + 6 ≤ 14071 from hsl)⟩ ?_
  refine lv_iload hx hb dL_law_291 (lv_at hl 1 rfl) ?_
  refine lv_icmp_eq (tgt := 298) hx hb dL_law_293 (by decide) (fun _ => ?_) (fun hh => absurd e1 hh)
  refine lv_iload hx hb dL_law_298 (lv_at hl 1 rfl) ?_
  refine lv_if_ne (tgt := 315) hx hb dL_law_300 (by decide) (fun _ => ?_) (fun hk => ?_)
  · refine lv_goto (tgt := 1690) hx hb dL_law_315 (by decide) ?_
    exact next sg1 r1 fo1 H locs ls hR1 hP hD hS (lv_sub hl [2, 3, 4, 5, 6] rfl)
  refine lv_aload_n hx hb dL_law_303 rfl (lv_at hl 5 rfl) ?_
  refine lv_iconst (v := 0) hx hb dL_law_304 (by decide) ?_
  refine va_lald hx hb hY.1 hP 0 2 rfl rfl vp_0_1 dL_law_305 ?_
  refine lv_iload hx hb dL_law_306 (lv_at hl 0 rfl) ?_
  refine lv_i2l hx hb dL_law_308 rfl ?_
  refine W.lcmp hx hb dL_law_309 ?_
  refine lv_if_eq (tgt := 315) hx hb dL_law_310 (by decide) (fun _ => ?_) (fun hh => absurd ((lg_cmp_eq _ _).mpr (e2 hk)) hh)
  refine lv_goto (tgt := 1690) hx hb dL_law_315 (by decide) ?_
  exact next sg1 r1 fo1 H locs ls hR1 hP hD hS (lv_sub hl [2, 3, 4, 5, 6] rfl)

set_option maxHeartbeats 4000000 in
set_option maxRecDepth 100000 in
theorem lc_clear {p : Program} {l : Launch} {e : Env} {s : State} {m : MethodId} {below : List Frame} {meth : Method} {c : Code} {G : GT} {b L : Nat} {xs : Nat → Int32} {Q : State → Prop} (C : LawAt p l s m meth c b L xs G) {i : Nat} (hi : i + 7 ≤ L) {ad ae : Nat → Nat} {ou : Nat} {sg : RRT} {r : MoT} {fo : Nat → Int64} (hR : Rel sg r) {H : Heap} {locs : List Loc} {cells slots : Nat} (hc : cells + 1 ≤ 1108) (hsl : slots + 6 ≤ 14071) (hP : va_P G.1 vwCl (([(ou, .inl (G.2.2.2, 1, .inr (.inl fo)))] ++ (wRR G ad 0 sg)) ++ wMo G ae 0 r) H) (hD : va_D (fun q : Nat => s.heap.size ≤ q) (([(ou, .inl (G.2.2.2, 1, .inr (.inl fo)))] ++ (wRR G ad 0 sg)) ++ wMo G ae 0 r)) (hS : va_S (fun q : Nat => s.heap.size ≤ q) s.heap H locs) {ls : Array Slot} (hl : lv_has ls 8 [(0, .ref b), (1, .ref (ad 0)), (2, .ref (ae 0)), (3, .ref ou), (4, .int (nI i))])
    (next : ∀ (sg : RRT) (r : MoT) (fo : Nat → Int64) (H : Heap) (locs : List Loc) (ls : Array Slot), Rel sg r → va_P G.1 vwCl (([(ou, .inl (G.2.2.2, 1, .inr (.inl fo)))] ++ (wRR G ad 0 sg)) ++ wMo G ae 0 r) H → va_D (fun q : Nat => s.heap.size ≤ q) (([(ou, .inl (G.2.2.2, 1, .inr (.inl fo)))] ++ (wRR G ad 0 sg)) ++ wMo G ae 0 r) → va_S (fun q : Nat => s.heap.size ≤ q) s.heap H locs → lv_has ls 8 [(0, .ref b), (1, .ref (ad 0)), (2, .ref (ae 0)), (3, .ref ou), (4, .int (nI i))] → W p l e room_1 s m #[Value.ref b] below meth c H locs (cells + 1) (slots + 6) Q (F0 m 1690 ls [])) :
    W p l e room_1 s m #[Value.ref b] below meth c H locs cells slots Q (F0 m 318 ls []) := by
  obtain ⟨⟨hx, hb, hr, hml, hown, hts0, hX, hbl, hlocks, hgv⟩, hl0, hY, hZ, hL⟩ := C
  have hts : ∀ w ∈ wsL_law, w.before #[Value.ref b] s = true := fun w h => hts0 w (wsL_law_in w h)
  have hown : s.vm.findClass RL = some m.cls := hown
  have CF : CallFix p m c cL_law 8 s #[Value.ref b] wsL_law RL := ⟨hx, hb, hml, hown, hts⟩
  have hA : ∀ q : Nat, s.heap.size ≤ q → (fun q : Nat => s.heap.size ≤ q) q := fun _ h => h
  have hbA : ¬ (fun q : Nat => s.heap.size ≤ q) b := Nat.not_le.mpr hbl
  refine lv_aload_n hx hb dL_law_318 rfl (lv_at hl 1 rfl) ?_
  refine lv_aload_n hx hb dL_law_319 rfl (lv_at hl 0 rfl) ?_
  refine lv_iload hx hb dL_law_320 (lv_at hl 4 rfl) ?_
  refine lv_iconst (v := 1) hx hb dL_law_322 (by decide) ?_
  refine lv_iadd hx hb dL_law_323 ?_
  refine va_sld hx hb hX hbl hbA hS (ix_1 hi hL) dL_law_324 ?_
  refine lv_aload_n hx hb dL_law_325 rfl (lv_at hl 3 rfl) ?_
  obtain ⟨kk, fo1, sg1, b1, r1, hC, hM, e1, e2, hR1⟩ := ag_clear l hl0 G ad 0 ae 0 hR (xs (nI i + 1).toNatClampNeg) ou fo
  refine caS [] ([(ou, .inl (G.2.2.2, 1, .inr (.inl fo)))] ++ (wRR G ad 0 sg)) (wMo G ae 0 r) ([(ou, .inl (G.2.2.2, 1, .inr (.inl fo1)))] ++ (wRR G ad 0 sg1)) (As := [.ref (ad 0), .int (xs (nI i + 1).toNatClampNeg), .ref ou]) (rest := []) CF hC (vx_cwSW 3 hts gL_law_L_clear rfl rfl rfl (by decide +kernel) ⟨Nat.le_of_ble_eq_true rfl, Nat.le_of_ble_eq_true rfl⟩) hP hD hS hA hY hZ (fst_LR _ _ _ _ _ _ _ _) rfl hl.1 rfl (lv_room (Nat.le_of_ble_eq_true rfl)) dL_law_326 ⟨hc, hsl⟩ (fun H locs hP hD hS => ?_)
  have hP : va_P G.1 vwCl (([(ou, .inl (G.2.2.2, 1, .inr (.inl fo1)))] ++ (wRR G ad 0 sg1)) ++ wMo G ae 0 r) H := hP
  have hD : va_D (fun q : Nat => s.heap.size ≤ q) (([(ou, .inl (G.2.2.2, 1, .inr (.inl fo1)))] ++ (wRR G ad 0 sg1)) ++ wMo G ae 0 r) := hD
  refine lv_istore (lv' := [(5, .int kk), (0, .ref b), (1, .ref (ad 0)), (2, .ref (ae 0)), (3, .ref ou), (4, .int (nI i))]) hx hb dL_law_329 hl (by decide) rfl (fun ls hl => ?_)
  refine lv_aload_n hx hb dL_law_331 rfl (lv_at hl 3 rfl) ?_
  refine lv_aload_n hx hb dL_law_332 rfl (lv_at hl 1 rfl) ?_
  refine lv_iload hx hb dL_law_333 (lv_at hl 5 rfl) ?_
  refine lv_iconst (v := 1) hx hb dL_law_335 (by decide) ?_
  refine lv_iadd hx hb dL_law_336 ?_
  refine va_sld hx hb hX hbl hbA hS (ix_1 hi hL) dL_law_337 ?_
  rw [← List.append_nil (wMo G ae 0 r)] at hP hD
  refine wrV ([(ou, .inl (G.2.2.2, 1, .inr (.inl fo1)))] ++ (wRR G ad 0 sg1)) (wMo G ae 0 r) [] (wMo G ae 0 r1) (As := [.int (xs (nI i + 1).toNatClampNeg)]) (rest := []) CF hM (cwV 1 hts gL_law_X7_clear rfl rfl rfl (by decide +kernel) ⟨Nat.le_of_ble_eq_true rfl, Nat.le_of_ble_eq_true rfl⟩) hP hD hS hA hY rfl rfl (fst_Mo _ _ _ _ _) rfl hl.1 rfl (lv_room (Nat.le_of_ble_eq_true rfl)) dL_law_338 ⟨(show cells + 1 ≤ 1108 from hc), (show slots + 6 ≤ 14071 from hsl)⟩ (fun H locs hP hD hS => ?_)
  rw [List.append_nil] at hP hD
  refine lv_istore (lv' := [(6, .int b1), (5, .int kk), (0, .ref b), (1, .ref (ad 0)), (2, .ref (ae 0)), (3, .ref ou), (4, .int (nI i))]) hx hb dL_law_341 hl (by decide) rfl (fun ls hl => ?_)
  refine lv_aload_n hx hb dL_law_343 rfl (lv_at hl 4 rfl) ?_
  refine rdV (w0 := (wMo G ae 0 r1)) (As := []) (rest := []) CF (k_X7_thrown l G ae 0 r1) (cwV 0 hts gL_law_X7_thrown rfl rfl rfl (by decide +kernel) ⟨Nat.le_of_ble_eq_true rfl, Nat.le_of_ble_eq_true rfl⟩) hP.apr hY rfl rfl rfl hl.1 rfl (lv_room (Nat.le_of_ble_eq_true rfl)) dL_law_344 ⟨(show cells + 1 ≤ 1108 from hc), (show slots + 6 ≤ 14071 from hsl)⟩ ?_
  refine lv_iload hx hb dL_law_347 (lv_at hl 1 rfl) ?_
  refine lv_icmp_eq (tgt := 354) hx hb dL_law_349 (by decide) (fun _ => ?_) (fun hh => absurd e1 hh)
  refine lv_iload hx hb dL_law_354 (lv_at hl 1 rfl) ?_
  refine lv_if_ne (tgt := 371) hx hb dL_law_356 (by decide) (fun _ => ?_) (fun hk => ?_)
  · refine lv_goto (tgt := 1690) hx hb dL_law_371 (by decide) ?_
    exact next sg1 r1 fo1 H locs ls hR1 hP hD hS (lv_sub hl [2, 3, 4, 5, 6] rfl)
  refine lv_aload_n hx hb dL_law_359 rfl (lv_at hl 5 rfl) ?_
  refine lv_iconst (v := 0) hx hb dL_law_360 (by decide) ?_
  refine va_lald hx hb hY.1 hP 0 2 rfl rfl vp_0_1 dL_law_361 ?_
  refine lv_iload hx hb dL_law_362 (lv_at hl 0 rfl) ?_
  refine lv_i2l hx hb dL_law_364 rfl ?_
  refine W.lcmp hx hb dL_law_365 ?_
  refine lv_if_eq (tgt := 371) hx hb dL_law_366 (by decide) (fun _ => ?_) (fun hh => absurd ((lg_cmp_eq _ _).mpr (e2 hk)) hh)
  refine lv_goto (tgt := 1690) hx hb dL_law_371 (by decide) ?_
  exact next sg1 r1 fo1 H locs ls hR1 hP hD hS (lv_sub hl [2, 3, 4, 5, 6] rfl)

set_option maxHeartbeats 4000000 in
set_option maxRecDepth 100000 in
theorem lc_offers {p : Program} {l : Launch} {e : Env} {s : State} {m : MethodId} {below : List Frame} {meth : Method} {c : Code} {G : GT} {b L : Nat} {xs : Nat → Int32} {Q : State → Prop} (C : LawAt p l s m meth c b L xs G) {i : Nat} (hi : i + 7 ≤ L) {ad ae : Nat → Nat} {ou : Nat} {sg : RRT} {r : MoT} {fo : Nat → Int64} (hR : Rel sg r) {H : Heap} {locs : List Loc} {cells slots : Nat} (hc : cells + 1 ≤ 1108) (hsl : slots + 6 ≤ 14071) (hP : va_P G.1 vwCl (([(ou, .inl (G.2.2.2, 1, .inr (.inl fo)))] ++ (wRR G ad 0 sg)) ++ wMo G ae 0 r) H) (hD : va_D (fun q : Nat => s.heap.size ≤ q) (([(ou, .inl (G.2.2.2, 1, .inr (.inl fo)))] ++ (wRR G ad 0 sg)) ++ wMo G ae 0 r)) (hS : va_S (fun q : Nat => s.heap.size ≤ q) s.heap H locs) {ls : Array Slot} (hl : lv_has ls 8 [(0, .ref b), (1, .ref (ad 0)), (2, .ref (ae 0)), (3, .ref ou), (4, .int (nI i))])
    (next : ∀ (sg : RRT) (r : MoT) (fo : Nat → Int64) (H : Heap) (locs : List Loc) (ls : Array Slot), Rel sg r → va_P G.1 vwCl (([(ou, .inl (G.2.2.2, 1, .inr (.inl fo)))] ++ (wRR G ad 0 sg)) ++ wMo G ae 0 r) H → va_D (fun q : Nat => s.heap.size ≤ q) (([(ou, .inl (G.2.2.2, 1, .inr (.inl fo)))] ++ (wRR G ad 0 sg)) ++ wMo G ae 0 r) → va_S (fun q : Nat => s.heap.size ≤ q) s.heap H locs → lv_has ls 8 [(0, .ref b), (1, .ref (ad 0)), (2, .ref (ae 0)), (3, .ref ou), (4, .int (nI i))] → W p l e room_1 s m #[Value.ref b] below meth c H locs (cells + 1) (slots + 6) Q (F0 m 1690 ls [])) :
    W p l e room_1 s m #[Value.ref b] below meth c H locs cells slots Q (F0 m 374 ls []) := by
  obtain ⟨⟨hx, hb, hr, hml, hown, hts0, hX, hbl, hlocks, hgv⟩, hl0, hY, hZ, hL⟩ := C
  have hts : ∀ w ∈ wsL_law, w.before #[Value.ref b] s = true := fun w h => hts0 w (wsL_law_in w h)
  have hown : s.vm.findClass RL = some m.cls := hown
  have CF : CallFix p m c cL_law 8 s #[Value.ref b] wsL_law RL := ⟨hx, hb, hml, hown, hts⟩
  have hA : ∀ q : Nat, s.heap.size ≤ q → (fun q : Nat => s.heap.size ≤ q) q := fun _ h => h
  have hbA : ¬ (fun q : Nat => s.heap.size ≤ q) b := Nat.not_le.mpr hbl
  refine lv_aload_n hx hb dL_law_374 rfl (lv_at hl 1 rfl) ?_
  refine lv_aload_n hx hb dL_law_375 rfl (lv_at hl 0 rfl) ?_
  refine lv_iload hx hb dL_law_376 (lv_at hl 4 rfl) ?_
  refine lv_iconst (v := 1) hx hb dL_law_378 (by decide) ?_
  refine lv_iadd hx hb dL_law_379 ?_
  refine va_sld hx hb hX hbl hbA hS (ix_1 hi hL) dL_law_380 ?_
  refine lv_aload_n hx hb dL_law_381 rfl (lv_at hl 3 rfl) ?_
  obtain ⟨kk, fo1, sg1, b1, r1, hC, hM, e1, e2, hR1⟩ := ag_offers l hl0 G ad 0 ae 0 hR (xs (nI i + 1).toNatClampNeg) ou fo
  refine caS [] ([(ou, .inl (G.2.2.2, 1, .inr (.inl fo)))] ++ (wRR G ad 0 sg)) (wMo G ae 0 r) ([(ou, .inl (G.2.2.2, 1, .inr (.inl fo1)))] ++ (wRR G ad 0 sg1)) (As := [.ref (ad 0), .int (xs (nI i + 1).toNatClampNeg), .ref ou]) (rest := []) CF hC (vx_cwSW 3 hts gL_law_L_offers rfl rfl rfl (by decide +kernel) ⟨Nat.le_of_ble_eq_true rfl, Nat.le_of_ble_eq_true rfl⟩) hP hD hS hA hY hZ (fst_LR _ _ _ _ _ _ _ _) rfl hl.1 rfl (lv_room (Nat.le_of_ble_eq_true rfl)) dL_law_382 ⟨hc, hsl⟩ (fun H locs hP hD hS => ?_)
  have hP : va_P G.1 vwCl (([(ou, .inl (G.2.2.2, 1, .inr (.inl fo1)))] ++ (wRR G ad 0 sg1)) ++ wMo G ae 0 r) H := hP
  have hD : va_D (fun q : Nat => s.heap.size ≤ q) (([(ou, .inl (G.2.2.2, 1, .inr (.inl fo1)))] ++ (wRR G ad 0 sg1)) ++ wMo G ae 0 r) := hD
  refine lv_istore (lv' := [(5, .int kk), (0, .ref b), (1, .ref (ad 0)), (2, .ref (ae 0)), (3, .ref ou), (4, .int (nI i))]) hx hb dL_law_385 hl (by decide) rfl (fun ls hl => ?_)
  refine lv_aload_n hx hb dL_law_387 rfl (lv_at hl 3 rfl) ?_
  refine lv_aload_n hx hb dL_law_388 rfl (lv_at hl 1 rfl) ?_
  refine lv_iload hx hb dL_law_389 (lv_at hl 5 rfl) ?_
  refine lv_iconst (v := 1) hx hb dL_law_391 (by decide) ?_
  refine lv_iadd hx hb dL_law_392 ?_
  refine va_sld hx hb hX hbl hbA hS (ix_1 hi hL) dL_law_393 ?_
  rw [← List.append_nil (wMo G ae 0 r)] at hP hD
  refine wrV ([(ou, .inl (G.2.2.2, 1, .inr (.inl fo1)))] ++ (wRR G ad 0 sg1)) (wMo G ae 0 r) [] (wMo G ae 0 r1) (As := [.int (xs (nI i + 1).toNatClampNeg)]) (rest := []) CF hM (cwV 1 hts gL_law_X7_offers rfl rfl rfl (by decide +kernel) ⟨Nat.le_of_ble_eq_true rfl, Nat.le_of_ble_eq_true rfl⟩) hP hD hS hA hY rfl rfl (fst_Mo _ _ _ _ _) rfl hl.1 rfl (lv_room (Nat.le_of_ble_eq_true rfl)) dL_law_394 ⟨(show cells + 1 ≤ 1108 from hc), (show slots + 6 ≤ 14071 from hsl)⟩ (fun H locs hP hD hS => ?_)
  rw [List.append_nil] at hP hD
  refine lv_istore (lv' := [(6, .int b1), (5, .int kk), (0, .ref b), (1, .ref (ad 0)), (2, .ref (ae 0)), (3, .ref ou), (4, .int (nI i))]) hx hb dL_law_397 hl (by decide) rfl (fun ls hl => ?_)
  refine lv_aload_n hx hb dL_law_399 rfl (lv_at hl 4 rfl) ?_
  refine rdV (w0 := (wMo G ae 0 r1)) (As := []) (rest := []) CF (k_X7_thrown l G ae 0 r1) (cwV 0 hts gL_law_X7_thrown rfl rfl rfl (by decide +kernel) ⟨Nat.le_of_ble_eq_true rfl, Nat.le_of_ble_eq_true rfl⟩) hP.apr hY rfl rfl rfl hl.1 rfl (lv_room (Nat.le_of_ble_eq_true rfl)) dL_law_400 ⟨(show cells + 1 ≤ 1108 from hc), (show slots + 6 ≤ 14071 from hsl)⟩ ?_
  refine lv_iload hx hb dL_law_403 (lv_at hl 1 rfl) ?_
  refine lv_icmp_eq (tgt := 410) hx hb dL_law_405 (by decide) (fun _ => ?_) (fun hh => absurd e1 hh)
  refine lv_iload hx hb dL_law_410 (lv_at hl 1 rfl) ?_
  refine lv_if_ne (tgt := 427) hx hb dL_law_412 (by decide) (fun _ => ?_) (fun hk => ?_)
  · refine lv_goto (tgt := 1690) hx hb dL_law_427 (by decide) ?_
    exact next sg1 r1 fo1 H locs ls hR1 hP hD hS (lv_sub hl [2, 3, 4, 5, 6] rfl)
  refine lv_aload_n hx hb dL_law_415 rfl (lv_at hl 5 rfl) ?_
  refine lv_iconst (v := 0) hx hb dL_law_416 (by decide) ?_
  refine va_lald hx hb hY.1 hP 0 2 rfl rfl vp_0_1 dL_law_417 ?_
  refine lv_iload hx hb dL_law_418 (lv_at hl 0 rfl) ?_
  refine lv_i2l hx hb dL_law_420 rfl ?_
  refine W.lcmp hx hb dL_law_421 ?_
  refine lv_if_eq (tgt := 427) hx hb dL_law_422 (by decide) (fun _ => ?_) (fun hh => absurd ((lg_cmp_eq _ _).mpr (e2 hk)) hh)
  refine lv_goto (tgt := 1690) hx hb dL_law_427 (by decide) ?_
  exact next sg1 r1 fo1 H locs ls hR1 hP hD hS (lv_sub hl [2, 3, 4, 5, 6] rfl)

set_option maxHeartbeats 4000000 in
set_option maxRecDepth 100000 in
theorem lc_exactWeight {p : Program} {l : Launch} {e : Env} {s : State} {m : MethodId} {below : List Frame} {meth : Method} {c : Code} {G : GT} {b L : Nat} {xs : Nat → Int32} {Q : State → Prop} (C : LawAt p l s m meth c b L xs G) {i : Nat} (hi : i + 7 ≤ L) {ad ae : Nat → Nat} {ou : Nat} {sg : RRT} {r : MoT} {fo : Nat → Int64} (hR : Rel sg r) {H : Heap} {locs : List Loc} {cells slots : Nat} (hc : cells + 1 ≤ 1108) (hsl : slots + 6 ≤ 14071) (hP : va_P G.1 vwCl (([(ou, .inl (G.2.2.2, 1, .inr (.inl fo)))] ++ (wRR G ad 0 sg)) ++ wMo G ae 0 r) H) (hD : va_D (fun q : Nat => s.heap.size ≤ q) (([(ou, .inl (G.2.2.2, 1, .inr (.inl fo)))] ++ (wRR G ad 0 sg)) ++ wMo G ae 0 r)) (hS : va_S (fun q : Nat => s.heap.size ≤ q) s.heap H locs) {ls : Array Slot} (hl : lv_has ls 8 [(0, .ref b), (1, .ref (ad 0)), (2, .ref (ae 0)), (3, .ref ou), (4, .int (nI i))])
    (next : ∀ (sg : RRT) (r : MoT) (fo : Nat → Int64) (H : Heap) (locs : List Loc) (ls : Array Slot), Rel sg r → va_P G.1 vwCl (([(ou, .inl (G.2.2.2, 1, .inr (.inl fo)))] ++ (wRR G ad 0 sg)) ++ wMo G ae 0 r) H → va_D (fun q : Nat => s.heap.size ≤ q) (([(ou, .inl (G.2.2.2, 1, .inr (.inl fo)))] ++ (wRR G ad 0 sg)) ++ wMo G ae 0 r) → va_S (fun q : Nat => s.heap.size ≤ q) s.heap H locs → lv_has ls 8 [(0, .ref b), (1, .ref (ad 0)), (2, .ref (ae 0)), (3, .ref ou), (4, .int (nI i))] → W p l e room_1 s m #[Value.ref b] below meth c H locs (cells + 1) (slots + 6) Q (F0 m 1690 ls [])) :
    W p l e room_1 s m #[Value.ref b] below meth c H locs cells slots Q (F0 m 430 ls []) := by
  obtain ⟨⟨hx, hb, hr, hml, hown, hts0, hX, hbl, hlocks, hgv⟩, hl0, hY, hZ, hL⟩ := C
  have hts : ∀ w ∈ wsL_law, w.before #[Value.ref b] s = true := fun w h => hts0 w (wsL_law_in w h)
  have hown : s.vm.findClass RL = some m.cls := hown
  have CF : CallFix p m c cL_law 8 s #[Value.ref b] wsL_law RL := ⟨hx, hb, hml, hown, hts⟩
  have hA : ∀ q : Nat, s.heap.size ≤ q → (fun q : Nat => s.heap.size ≤ q) q := fun _ h => h
  have hbA : ¬ (fun q : Nat => s.heap.size ≤ q) b := Nat.not_le.mpr hbl
  refine lv_aload_n hx hb dL_law_430 rfl (lv_at hl 1 rfl) ?_
  refine lv_aload_n hx hb dL_law_431 rfl (lv_at hl 0 rfl) ?_
  refine lv_iload hx hb dL_law_432 (lv_at hl 4 rfl) ?_
  refine lv_iconst (v := 1) hx hb dL_law_434 (by decide) ?_
  refine lv_iadd hx hb dL_law_435 ?_
  refine va_sld hx hb hX hbl hbA hS (ix_1 hi hL) dL_law_436 ?_
  refine lv_aload_n hx hb dL_law_437 rfl (lv_at hl 0 rfl) ?_
  refine lv_iload hx hb dL_law_438 (lv_at hl 4 rfl) ?_
  refine lv_iconst (v := 2) hx hb dL_law_440 (by decide) ?_
  refine lv_iadd hx hb dL_law_441 ?_
  refine va_sld hx hb hX hbl hbA hS (ix_2 hi hL) dL_law_442 ?_
  refine lv_aload_n hx hb dL_law_443 rfl (lv_at hl 3 rfl) ?_
  obtain ⟨kk, fo1, sg1, b1, r1, hC, hM, e1, e2, hR1⟩ := ag_exactWeight l hl0 G ad 0 ae 0 hR (xs (nI i + 1).toNatClampNeg) (xs (nI i + 2).toNatClampNeg) ou fo
  refine caS [] ([(ou, .inl (G.2.2.2, 1, .inr (.inl fo)))] ++ (wRR G ad 0 sg)) (wMo G ae 0 r) ([(ou, .inl (G.2.2.2, 1, .inr (.inl fo1)))] ++ (wRR G ad 0 sg1)) (As := [.ref (ad 0), .int (xs (nI i + 1).toNatClampNeg), .int (xs (nI i + 2).toNatClampNeg), .ref ou]) (rest := []) CF hC (vx_cwSW 4 hts gL_law_L_exactWeight rfl rfl rfl (by decide +kernel) ⟨Nat.le_of_ble_eq_true rfl, Nat.le_of_ble_eq_true rfl⟩) hP hD hS hA hY hZ (fst_LR _ _ _ _ _ _ _ _) rfl hl.1 rfl (lv_room (Nat.le_of_ble_eq_true rfl)) dL_law_444 ⟨hc, hsl⟩ (fun H locs hP hD hS => ?_)
  have hP : va_P G.1 vwCl (([(ou, .inl (G.2.2.2, 1, .inr (.inl fo1)))] ++ (wRR G ad 0 sg1)) ++ wMo G ae 0 r) H := hP
  have hD : va_D (fun q : Nat => s.heap.size ≤ q) (([(ou, .inl (G.2.2.2, 1, .inr (.inl fo1)))] ++ (wRR G ad 0 sg1)) ++ wMo G ae 0 r) := hD
  refine lv_istore (lv' := [(5, .int kk), (0, .ref b), (1, .ref (ad 0)), (2, .ref (ae 0)), (3, .ref ou), (4, .int (nI i))]) hx hb dL_law_447 hl (by decide) rfl (fun ls hl => ?_)
  refine lv_aload_n hx hb dL_law_449 rfl (lv_at hl 3 rfl) ?_
  refine lv_aload_n hx hb dL_law_450 rfl (lv_at hl 1 rfl) ?_
  refine lv_iload hx hb dL_law_451 (lv_at hl 5 rfl) ?_
  refine lv_iconst (v := 1) hx hb dL_law_453 (by decide) ?_
  refine lv_iadd hx hb dL_law_454 ?_
  refine va_sld hx hb hX hbl hbA hS (ix_1 hi hL) dL_law_455 ?_
  refine lv_aload_n hx hb dL_law_456 rfl (lv_at hl 1 rfl) ?_
  refine lv_iload hx hb dL_law_457 (lv_at hl 5 rfl) ?_
  refine lv_iconst (v := 2) hx hb dL_law_459 (by decide) ?_
  refine lv_iadd hx hb dL_law_460 ?_
  refine va_sld hx hb hX hbl hbA hS (ix_2 hi hL) dL_law_461 ?_
  rw [← List.append_nil (wMo G ae 0 r)] at hP hD
  refine wrV ([(ou, .inl (G.2.2.2, 1, .inr (.inl fo1)))] ++ (wRR G ad 0 sg1)) (wMo G ae 0 r) [] (wMo G ae 0 r1) (As := [.int (xs (nI i + 1).toNatClampNeg), .int (xs (nI i + 2).toNatClampNeg)]) (rest := []) CF hM (cwV 2 hts gL_law_X7_exactWeight rfl rfl rfl (by decide +kernel) ⟨Nat.le_of_ble_eq_true rfl, Nat.le_of_ble_eq_true rfl⟩) hP hD hS hA hY rfl rfl (fst_Mo _ _ _ _ _) rfl hl.1 rfl (lv_room (Nat.le_of_ble_eq_true rfl)) dL_law_462 ⟨(show cells + 1 ≤ 1108 from hc), (show slots + 6 ≤ 14071 from hsl)⟩ (fun H locs hP hD hS => ?_)
  rw [List.append_nil] at hP hD
  refine lv_istore (lv' := [(6, .int b1), (5, .int kk), (0, .ref b), (1, .ref (ad 0)), (2, .ref (ae 0)), (3, .ref ou), (4, .int (nI i))]) hx hb dL_law_465 hl (by decide) rfl (fun ls hl => ?_)
  refine lv_aload_n hx hb dL_law_467 rfl (lv_at hl 4 rfl) ?_
  refine rdV (w0 := (wMo G ae 0 r1)) (As := []) (rest := []) CF (k_X7_thrown l G ae 0 r1) (cwV 0 hts gL_law_X7_thrown rfl rfl rfl (by decide +kernel) ⟨Nat.le_of_ble_eq_true rfl, Nat.le_of_ble_eq_true rfl⟩) hP.apr hY rfl rfl rfl hl.1 rfl (lv_room (Nat.le_of_ble_eq_true rfl)) dL_law_468 ⟨(show cells + 1 ≤ 1108 from hc), (show slots + 6 ≤ 14071 from hsl)⟩ ?_
  refine lv_iload hx hb dL_law_471 (lv_at hl 1 rfl) ?_
  refine lv_icmp_eq (tgt := 478) hx hb dL_law_473 (by decide) (fun _ => ?_) (fun hh => absurd e1 hh)
  refine lv_iload hx hb dL_law_478 (lv_at hl 1 rfl) ?_
  refine lv_if_ne (tgt := 495) hx hb dL_law_480 (by decide) (fun _ => ?_) (fun hk => ?_)
  · refine lv_goto (tgt := 1690) hx hb dL_law_495 (by decide) ?_
    exact next sg1 r1 fo1 H locs ls hR1 hP hD hS (lv_sub hl [2, 3, 4, 5, 6] rfl)
  refine lv_aload_n hx hb dL_law_483 rfl (lv_at hl 5 rfl) ?_
  refine lv_iconst (v := 0) hx hb dL_law_484 (by decide) ?_
  refine va_lald hx hb hY.1 hP 0 2 rfl rfl vp_0_1 dL_law_485 ?_
  refine lv_iload hx hb dL_law_486 (lv_at hl 0 rfl) ?_
  refine lv_i2l hx hb dL_law_488 rfl ?_
  refine W.lcmp hx hb dL_law_489 ?_
  refine lv_if_eq (tgt := 495) hx hb dL_law_490 (by decide) (fun _ => ?_) (fun hh => absurd ((lg_cmp_eq _ _).mpr (e2 hk)) hh)
  refine lv_goto (tgt := 1690) hx hb dL_law_495 (by decide) ?_
  exact next sg1 r1 fo1 H locs ls hR1 hP hD hS (lv_sub hl [2, 3, 4, 5, 6] rfl)

set_option maxHeartbeats 4000000 in
set_option maxRecDepth 100000 in
theorem lc_reservoirSize {p : Program} {l : Launch} {e : Env} {s : State} {m : MethodId} {below : List Frame} {meth : Method} {c : Code} {G : GT} {b L : Nat} {xs : Nat → Int32} {Q : State → Prop} (C : LawAt p l s m meth c b L xs G) {i : Nat} (hi : i + 7 ≤ L) {ad ae : Nat → Nat} {ou : Nat} {sg : RRT} {r : MoT} {fo : Nat → Int64} (hR : Rel sg r) {H : Heap} {locs : List Loc} {cells slots : Nat} (hc : cells + 1 ≤ 1108) (hsl : slots + 6 ≤ 14071) (hP : va_P G.1 vwCl (([(ou, .inl (G.2.2.2, 1, .inr (.inl fo)))] ++ (wRR G ad 0 sg)) ++ wMo G ae 0 r) H) (hD : va_D (fun q : Nat => s.heap.size ≤ q) (([(ou, .inl (G.2.2.2, 1, .inr (.inl fo)))] ++ (wRR G ad 0 sg)) ++ wMo G ae 0 r)) (hS : va_S (fun q : Nat => s.heap.size ≤ q) s.heap H locs) {ls : Array Slot} (hl : lv_has ls 8 [(0, .ref b), (1, .ref (ad 0)), (2, .ref (ae 0)), (3, .ref ou), (4, .int (nI i))])
    (next : ∀ (sg : RRT) (r : MoT) (fo : Nat → Int64) (H : Heap) (locs : List Loc) (ls : Array Slot), Rel sg r → va_P G.1 vwCl (([(ou, .inl (G.2.2.2, 1, .inr (.inl fo)))] ++ (wRR G ad 0 sg)) ++ wMo G ae 0 r) H → va_D (fun q : Nat => s.heap.size ≤ q) (([(ou, .inl (G.2.2.2, 1, .inr (.inl fo)))] ++ (wRR G ad 0 sg)) ++ wMo G ae 0 r) → va_S (fun q : Nat => s.heap.size ≤ q) s.heap H locs → lv_has ls 8 [(0, .ref b), (1, .ref (ad 0)), (2, .ref (ae 0)), (3, .ref ou), (4, .int (nI i))] → W p l e room_1 s m #[Value.ref b] below meth c H locs (cells + 1) (slots + 6) Q (F0 m 1690 ls [])) :
    W p l e room_1 s m #[Value.ref b] below meth c H locs cells slots Q (F0 m 498 ls []) := by
  obtain ⟨⟨hx, hb, hr, hml, hown, hts0, hX, hbl, hlocks, hgv⟩, hl0, hY, hZ, hL⟩ := C
  have hts : ∀ w ∈ wsL_law, w.before #[Value.ref b] s = true := fun w h => hts0 w (wsL_law_in w h)
  have hown : s.vm.findClass RL = some m.cls := hown
  have CF : CallFix p m c cL_law 8 s #[Value.ref b] wsL_law RL := ⟨hx, hb, hml, hown, hts⟩
  have hA : ∀ q : Nat, s.heap.size ≤ q → (fun q : Nat => s.heap.size ≤ q) q := fun _ h => h
  have hbA : ¬ (fun q : Nat => s.heap.size ≤ q) b := Nat.not_le.mpr hbl
  refine lv_aload_n hx hb dL_law_498 rfl (lv_at hl 1 rfl) ?_
  refine lv_aload_n hx hb dL_law_499 rfl (lv_at hl 0 rfl) ?_
  refine lv_iload hx hb dL_law_500 (lv_at hl 4 rfl) ?_
  refine lv_iconst (v := 1) hx hb dL_law_502 (by decide) ?_
  refine lv_iadd hx hb dL_law_503 ?_
  refine va_sld hx hb hX hbl hbA hS (ix_1 hi hL) dL_law_504 ?_
  refine lv_aload_n hx hb dL_law_505 rfl (lv_at hl 3 rfl) ?_
  obtain ⟨kk, fo1, sg1, b1, r1, hC, hM, e1, e2, hR1⟩ := ag_reservoirSize l hl0 G ad 0 ae 0 hR (xs (nI i + 1).toNatClampNeg) ou fo
  refine caS [] ([(ou, .inl (G.2.2.2, 1, .inr (.inl fo)))] ++ (wRR G ad 0 sg)) (wMo G ae 0 r) ([(ou, .inl (G.2.2.2, 1, .inr (.inl fo1)))] ++ (wRR G ad 0 sg1)) (As := [.ref (ad 0), .int (xs (nI i + 1).toNatClampNeg), .ref ou]) (rest := []) CF hC (vx_cwSW 3 hts gL_law_L_reservoirSize rfl rfl rfl (by decide +kernel) ⟨Nat.le_of_ble_eq_true rfl, Nat.le_of_ble_eq_true rfl⟩) hP hD hS hA hY hZ (fst_LR _ _ _ _ _ _ _ _) rfl hl.1 rfl (lv_room (Nat.le_of_ble_eq_true rfl)) dL_law_506 ⟨hc, hsl⟩ (fun H locs hP hD hS => ?_)
  have hP : va_P G.1 vwCl (([(ou, .inl (G.2.2.2, 1, .inr (.inl fo1)))] ++ (wRR G ad 0 sg1)) ++ wMo G ae 0 r) H := hP
  have hD : va_D (fun q : Nat => s.heap.size ≤ q) (([(ou, .inl (G.2.2.2, 1, .inr (.inl fo1)))] ++ (wRR G ad 0 sg1)) ++ wMo G ae 0 r) := hD
  refine lv_istore (lv' := [(5, .int kk), (0, .ref b), (1, .ref (ad 0)), (2, .ref (ae 0)), (3, .ref ou), (4, .int (nI i))]) hx hb dL_law_509 hl (by decide) rfl (fun ls hl => ?_)
  refine lv_aload_n hx hb dL_law_511 rfl (lv_at hl 3 rfl) ?_
  refine lv_aload_n hx hb dL_law_512 rfl (lv_at hl 1 rfl) ?_
  refine lv_iload hx hb dL_law_513 (lv_at hl 5 rfl) ?_
  refine lv_iconst (v := 1) hx hb dL_law_515 (by decide) ?_
  refine lv_iadd hx hb dL_law_516 ?_
  refine va_sld hx hb hX hbl hbA hS (ix_1 hi hL) dL_law_517 ?_
  rw [← List.append_nil (wMo G ae 0 r)] at hP hD
  refine wrV ([(ou, .inl (G.2.2.2, 1, .inr (.inl fo1)))] ++ (wRR G ad 0 sg1)) (wMo G ae 0 r) [] (wMo G ae 0 r1) (As := [.int (xs (nI i + 1).toNatClampNeg)]) (rest := []) CF hM (cwV 1 hts gL_law_X7_reservoirSize rfl rfl rfl (by decide +kernel) ⟨Nat.le_of_ble_eq_true rfl, Nat.le_of_ble_eq_true rfl⟩) hP hD hS hA hY rfl rfl (fst_Mo _ _ _ _ _) rfl hl.1 rfl (lv_room (Nat.le_of_ble_eq_true rfl)) dL_law_518 ⟨(show cells + 1 ≤ 1108 from hc), (show slots + 6 ≤ 14071 from hsl)⟩ (fun H locs hP hD hS => ?_)
  rw [List.append_nil] at hP hD
  refine lv_istore (lv' := [(6, .int b1), (5, .int kk), (0, .ref b), (1, .ref (ad 0)), (2, .ref (ae 0)), (3, .ref ou), (4, .int (nI i))]) hx hb dL_law_521 hl (by decide) rfl (fun ls hl => ?_)
  refine lv_aload_n hx hb dL_law_523 rfl (lv_at hl 4 rfl) ?_
  refine rdV (w0 := (wMo G ae 0 r1)) (As := []) (rest := []) CF (k_X7_thrown l G ae 0 r1) (cwV 0 hts gL_law_X7_thrown rfl rfl rfl (by decide +kernel) ⟨Nat.le_of_ble_eq_true rfl, Nat.le_of_ble_eq_true rfl⟩) hP.apr hY rfl rfl rfl hl.1 rfl (lv_room (Nat.le_of_ble_eq_true rfl)) dL_law_524 ⟨(show cells + 1 ≤ 1108 from hc), (show slots + 6 ≤ 14071 from hsl)⟩ ?_
  refine lv_iload hx hb dL_law_527 (lv_at hl 1 rfl) ?_
  refine lv_icmp_eq (tgt := 534) hx hb dL_law_529 (by decide) (fun _ => ?_) (fun hh => absurd e1 hh)
  refine lv_iload hx hb dL_law_534 (lv_at hl 1 rfl) ?_
  refine lv_if_ne (tgt := 551) hx hb dL_law_536 (by decide) (fun _ => ?_) (fun hk => ?_)
  · refine lv_goto (tgt := 1690) hx hb dL_law_551 (by decide) ?_
    exact next sg1 r1 fo1 H locs ls hR1 hP hD hS (lv_sub hl [2, 3, 4, 5, 6] rfl)
  refine lv_aload_n hx hb dL_law_539 rfl (lv_at hl 5 rfl) ?_
  refine lv_iconst (v := 0) hx hb dL_law_540 (by decide) ?_
  refine va_lald hx hb hY.1 hP 0 2 rfl rfl vp_0_1 dL_law_541 ?_
  refine lv_iload hx hb dL_law_542 (lv_at hl 0 rfl) ?_
  refine lv_i2l hx hb dL_law_544 rfl ?_
  refine W.lcmp hx hb dL_law_545 ?_
  refine lv_if_eq (tgt := 551) hx hb dL_law_546 (by decide) (fun _ => ?_) (fun hh => absurd ((lg_cmp_eq _ _).mpr (e2 hk)) hh)
  refine lv_goto (tgt := 1690) hx hb dL_law_551 (by decide) ?_
  exact next sg1 r1 fo1 H locs ls hR1 hP hD hS (lv_sub hl [2, 3, 4, 5, 6] rfl)
