set_option maxHeartbeats 4000000 in
theorem law_c0 {p : Program} {l : Launch} {e : Env} {s : State} {m : MethodId} {below : List Frame} {meth : Method} {c : Code} {b L : Nat} {xs : Nat → Int32} {g : Nat → Value} {ad : Nat → Nat} {D : va_G} {cA : Nat → ClassId} {H : Heap} {locs : List Loc} {cells slots : Nat} {ls : Array Slot} {i : Int32} {σ : jM} (C0 : lw_At p s m meth c b L xs) (hC : j_Cx g ad s.heap.size D cA vwCl j_TW j_zs j_ks "HundredWordsLaw" "law" code 4 p s m #[.ref b] meth c) (hv : ∀ d : Nat, d ≤ 5 → vp_in (i + Int32.ofNat d) L) (I : Inv σ) (hH : j_H g ad s.heap.size D cA vwCl s H (HP σ)) (hS : va_S (j_A s.heap.size) s.heap H locs) (hc : cells ≤ 600000) (hs : slots ≤ 7302250) (hl : lv_has ls 4 [(0, .ref b), (1, .ref (ad 9)), (2, .ref (ad 117)), (3, .int i)]) (K : ∀ (H2 : Heap) (locs2 : List Loc) (ls2 : Array Slot) (ρ : jM), Inv ρ → j_H g ad s.heap.size D cA vwCl s H2 (HP ρ) → va_S (j_A s.heap.size) s.heap H2 locs2 → lv_has ls2 4 [(3, .int (i + Int32.ofInt 6)), (0, .ref b), (1, .ref (ad 9)), (2, .ref (ad 117))] → W p l e room_1 s m #[Value.ref b] below meth c H2 locs2 cells slots (lw_Z below #[Value.ref b] s) (F0 m 18 ls2 [])) : W p l e room_1 s m #[Value.ref b] below meth c H locs cells slots (lw_Z below #[Value.ref b] s) (F0 m 196 ls []) := by
  obtain ⟨hx, hb, hr, hml, hown, hts, hX, hbl, hlocks, hgv⟩ := id C0
  have hbA : ¬ j_A s.heap.size b := Nat.not_le.mpr hbl
  refine lv_aload_n hx hb dl_196 rfl (lv_at hl 1 rfl) ?_
  refine lv_aload_n hx hb dl_197 rfl (lv_at hl 0 rfl) ?_
  refine lv_iload_n hx hb dl_198 rfl (lv_at hl 3 rfl) ?_
  refine lv_iconst (v := 1) hx hb dl_199 (by decide) ?_
  refine lv_iadd hx hb dl_200 ?_
  refine va_sld hx hb hX hbl hbA hS (i := (i + 1)) (hv 1 (by decide)) dl_201 ?_
  refine lv_aload_n hx hb dl_202 rfl (lv_at hl 0 rfl) ?_
  refine lv_iload_n hx hb dl_203 rfl (lv_at hl 3 rfl) ?_
  refine lv_iconst (v := 2) hx hb dl_204 (by decide) ?_
  refine lv_iadd hx hb dl_205 ?_
  refine va_sld hx hb hX hbl hbA hS (i := (i + 2)) (hv 2 (by decide)) dl_206 ?_
  refine lv_aload_n hx hb dl_207 rfl (lv_at hl 0 rfl) ?_
  refine lv_iload_n hx hb dl_208 rfl (lv_at hl 3 rfl) ?_
  refine lv_iconst (v := 3) hx hb dl_209 (by decide) ?_
  refine lv_iadd hx hb dl_210 ?_
  refine va_sld hx hb hX hbl hbA hS (i := (i + 3)) (hv 3 (by decide)) dl_211 ?_
  refine lv_aload_n hx hb dl_212 rfl (lv_at hl 0 rfl) ?_
  refine lv_iload_n hx hb dl_213 rfl (lv_at hl 3 rfl) ?_
  refine lv_iconst (v := 4) hx hb dl_214 (by decide) ?_
  refine lv_iadd hx hb dl_215 ?_
  refine va_sld hx hb hX hbl hbA hS (i := (i + 4)) (hv 4 (by decide)) dl_216 ?_
  refine lv_aload_n hx hb dl_217 rfl (lv_at hl 0 rfl) ?_
  refine lv_iload_n hx hb dl_218 rfl (lv_at hl 3 rfl) ?_
  refine lv_iconst (v := 5) hx hb dl_219 (by decide) ?_
  refine lv_iadd hx hb dl_220 ?_
  refine va_sld hx hb hX hbl hbA hS (i := (i + 5)) (hv 5 (by decide)) dl_221 ?_
  obtain ⟨n1, n2, w1, w2, τ, ρ, r1, r2, I2⟩ := pm_feed I ((xs (Int32.toNatClampNeg (i + 1)))) ((xs (Int32.toNatClampNeg (i + 2)))) ((xs (Int32.toNatClampNeg (i + 3)))) ((xs (Int32.toNatClampNeg (i + 4)))) ((xs (Int32.toNatClampNeg (i + 5))))
  refine W.eq (g2 := F0 m 222 ls ((([.int (xs (Int32.toNatClampNeg (i + 1))), .int (xs (Int32.toNatClampNeg (i + 2))), .int (xs (Int32.toNatClampNeg (i + 3))), .int (xs (Int32.toNatClampNeg (i + 4))), .int (xs (Int32.toNatClampNeg (i + 5)))] : List Value).map (j_rv g)).reverse ++ .ref (ad 9) :: [])) rfl ?_
  refine j_lawV hC (as := [.int (xs (Int32.toNatClampNeg (i + 1))), .int (xs (Int32.toNatClampNeg (i + 2))), .int (xs (Int32.toNatClampNeg (i + 3))), .int (xs (Int32.toNatClampNeg (i + 4))), .int (xs (Int32.toNatClampNeg (i + 5)))]) (a := 9) (rest := []) r1 dl_222 (j := 24) (Nat.le_of_ble_eq_true rfl) (by decide +kernel) (j_has_in (c := 3) (o := 20) (by decide +kernel)) (Nat.le_of_ble_eq_true rfl) HP_x (show 5 = j_np 24 from by decide +kernel) (show (lg_sl _).length ≤ 6 from Nat.le_of_ble_eq_true rfl) (Nat.le_of_ble_eq_true rfl) (show 8 + (6 + 11) + 20000 ≤ 84000 from Nat.le_of_ble_eq_true rfl) (Nat.le_of_ble_eq_true rfl) hl.1 hH hS hc hs (fun H1 locs1 hH1 hS1 => ?_)
  show W p l e room_1 s m #[Value.ref b] below meth c H1 locs1 _ _ (lw_Z below #[Value.ref b] s) (F0 m 225 ls [iV w1])
  have hS := hS1
  refine lv_pop hx hb dl_225 rfl ?_
  refine lv_aload_n hx hb dl_226 rfl (lv_at hl 2 rfl) ?_
  refine lv_aload_n hx hb dl_227 rfl (lv_at hl 0 rfl) ?_
  refine lv_iload_n hx hb dl_228 rfl (lv_at hl 3 rfl) ?_
  refine lv_iconst (v := 1) hx hb dl_229 (by decide) ?_
  refine lv_iadd hx hb dl_230 ?_
  refine va_sld hx hb hX hbl hbA hS (i := (i + 1)) (hv 1 (by decide)) dl_231 ?_
  refine lv_aload_n hx hb dl_232 rfl (lv_at hl 0 rfl) ?_
  refine lv_iload_n hx hb dl_233 rfl (lv_at hl 3 rfl) ?_
  refine lv_iconst (v := 2) hx hb dl_234 (by decide) ?_
  refine lv_iadd hx hb dl_235 ?_
  refine va_sld hx hb hX hbl hbA hS (i := (i + 2)) (hv 2 (by decide)) dl_236 ?_
  refine lv_aload_n hx hb dl_237 rfl (lv_at hl 0 rfl) ?_
  refine lv_iload_n hx hb dl_238 rfl (lv_at hl 3 rfl) ?_
  refine lv_iconst (v := 3) hx hb dl_239 (by decide) ?_
  refine lv_iadd hx hb dl_240 ?_
  refine va_sld hx hb hX hbl hbA hS (i := (i + 3)) (hv 3 (by decide)) dl_241 ?_
  refine lv_aload_n hx hb dl_242 rfl (lv_at hl 0 rfl) ?_
  refine lv_iload_n hx hb dl_243 rfl (lv_at hl 3 rfl) ?_
  refine lv_iconst (v := 4) hx hb dl_244 (by decide) ?_
  refine lv_iadd hx hb dl_245 ?_
  refine va_sld hx hb hX hbl hbA hS (i := (i + 4)) (hv 4 (by decide)) dl_246 ?_
  refine lv_aload_n hx hb dl_247 rfl (lv_at hl 0 rfl) ?_
  refine lv_iload_n hx hb dl_248 rfl (lv_at hl 3 rfl) ?_
  refine lv_iconst (v := 5) hx hb dl_249 (by decide) ?_
  refine lv_iadd hx hb dl_250 ?_
  refine va_sld hx hb hX hbl hbA hS (i := (i + 5)) (hv 5 (by decide)) dl_251 ?_
  refine W.eq (g2 := F0 m 252 ls ((([.int (xs (Int32.toNatClampNeg (i + 1))), .int (xs (Int32.toNatClampNeg (i + 2))), .int (xs (Int32.toNatClampNeg (i + 3))), .int (xs (Int32.toNatClampNeg (i + 4))), .int (xs (Int32.toNatClampNeg (i + 5)))] : List Value).map (j_rv g)).reverse ++ .ref (ad 117) :: [])) rfl ?_
  refine j_lawV hC (as := [.int (xs (Int32.toNatClampNeg (i + 1))), .int (xs (Int32.toNatClampNeg (i + 2))), .int (xs (Int32.toNatClampNeg (i + 3))), .int (xs (Int32.toNatClampNeg (i + 4))), .int (xs (Int32.toNatClampNeg (i + 5)))]) (a := 117) (rest := []) r2 dl_252 (j := 212) (Nat.le_of_ble_eq_true rfl) (by decide +kernel) (j_has_in (c := 7) (o := 157) (by decide +kernel)) (Nat.le_of_ble_eq_true rfl) HP_m (show 5 = j_np 212 from by decide +kernel) (show (lg_sl _).length ≤ 8 from Nat.le_of_ble_eq_true rfl) (Nat.le_of_ble_eq_true rfl) (show 8 + (8 + 11) + 20000 ≤ 84000 from Nat.le_of_ble_eq_true rfl) (Nat.le_of_ble_eq_true rfl) hl.1 hH1 hS hc hs (fun H2 locs2 hH2 hS2 => ?_)
  show W p l e room_1 s m #[Value.ref b] below meth c H2 locs2 _ _ (lw_Z below #[Value.ref b] s) (F0 m 255 ls [iV w2])
  have hS := hS2
  refine lv_pop hx hb dl_255 rfl ?_
  refine lv_goto (tgt := 1225) hx hb dl_256 (by decide) ?_
  refine lv_iinc (v := i + Int32.ofInt 6) (lv' := [(3, .int (i + Int32.ofInt 6)), (0, .ref b), (1, .ref (ad 9)), (2, .ref (ad 117))]) hx hb dl_1225 hl (k := 3) rfl rfl (by decide) rfl (fun ls hl => ?_)
  refine lv_goto (tgt := 18) hx hb dl_1228 (by decide) ?_
  exact K _ _ _ _ I2 hH2 hS hl
set_option maxHeartbeats 4000000 in
theorem law_c3 {p : Program} {l : Launch} {e : Env} {s : State} {m : MethodId} {below : List Frame} {meth : Method} {c : Code} {b L : Nat} {xs : Nat → Int32} {g : Nat → Value} {ad : Nat → Nat} {D : va_G} {cA : Nat → ClassId} {H : Heap} {locs : List Loc} {cells slots : Nat} {ls : Array Slot} {i : Int32} {σ : jM} (C0 : lw_At p s m meth c b L xs) (hC : j_Cx g ad s.heap.size D cA vwCl j_TW j_zs j_ks "HundredWordsLaw" "law" code 4 p s m #[.ref b] meth c) (hv : ∀ d : Nat, d ≤ 5 → vp_in (i + Int32.ofNat d) L) (I : Inv σ) (hH : j_H g ad s.heap.size D cA vwCl s H (HP σ)) (hS : va_S (j_A s.heap.size) s.heap H locs) (hc : cells ≤ 600000) (hs : slots ≤ 7302250) (hl : lv_has ls 4 [(0, .ref b), (1, .ref (ad 9)), (2, .ref (ad 117)), (3, .int i)]) (K : ∀ (H2 : Heap) (locs2 : List Loc) (ls2 : Array Slot) (ρ : jM), Inv ρ → j_H g ad s.heap.size D cA vwCl s H2 (HP ρ) → va_S (j_A s.heap.size) s.heap H2 locs2 → lv_has ls2 4 [(3, .int (i + Int32.ofInt 6)), (0, .ref b), (1, .ref (ad 9)), (2, .ref (ad 117))] → W p l e room_1 s m #[Value.ref b] below meth c H2 locs2 cells slots (lw_Z below #[Value.ref b] s) (F0 m 18 ls2 [])) : W p l e room_1 s m #[Value.ref b] below meth c H locs cells slots (lw_Z below #[Value.ref b] s) (F0 m 295 ls []) := by
  obtain ⟨hx, hb, hr, hml, hown, hts, hX, hbl, hlocks, hgv⟩ := id C0
  have hbA : ¬ j_A s.heap.size b := Nat.not_le.mpr hbl
  refine lv_aload_n hx hb dl_295 rfl (lv_at hl 1 rfl) ?_
  refine lv_aload_n hx hb dl_296 rfl (lv_at hl 0 rfl) ?_
  refine lv_iload_n hx hb dl_297 rfl (lv_at hl 3 rfl) ?_
  refine lv_iconst (v := 1) hx hb dl_298 (by decide) ?_
  refine lv_iadd hx hb dl_299 ?_
  refine va_sld hx hb hX hbl hbA hS (i := (i + 1)) (hv 1 (by decide)) dl_300 ?_
  refine lv_if_eq (tgt := 308) hx hb dl_301 (by decide) (fun hq0 => ?_) (fun hq0 => ?_)
  · skip
    refine lv_iconst (v := 0) hx hb dl_308 (by decide) ?_
    obtain ⟨n1, n2, w1, w2, τ, ρ, r1, r2, I2⟩ := pm_law_0 I 
    refine W.eq (g2 := F0 m 309 ls ((([.int 0] : List Value).map (j_rv g)).reverse ++ .ref (ad 9) :: [])) rfl ?_
    refine j_lawV hC (as := [.int 0]) (a := 9) (rest := []) r1 dl_309 (j := 74) (Nat.le_of_ble_eq_true rfl) (by decide +kernel) (j_has_in (c := 3) (o := 223) (by decide +kernel)) (Nat.le_of_ble_eq_true rfl) HP_x (show 1 = j_np 74 from by decide +kernel) (show (lg_sl _).length ≤ 3 from Nat.le_of_ble_eq_true rfl) (Nat.le_of_ble_eq_true rfl) (show 8 + (3 + 11) + 20000 ≤ 84000 from Nat.le_of_ble_eq_true rfl) (Nat.le_of_ble_eq_true rfl) hl.1 hH hS hc hs (fun H1 locs1 hH1 hS1 => ?_)
    show W p l e room_1 s m #[Value.ref b] below meth c H1 locs1 _ _ (lw_Z below #[Value.ref b] s) (F0 m 312 ls [iV w1])
    have hS := hS1
    refine lv_pop hx hb dl_312 rfl ?_
    refine lv_aload_n hx hb dl_313 rfl (lv_at hl 2 rfl) ?_
    refine lv_aload_n hx hb dl_314 rfl (lv_at hl 0 rfl) ?_
    refine lv_iload_n hx hb dl_315 rfl (lv_at hl 3 rfl) ?_
    refine lv_iconst (v := 1) hx hb dl_316 (by decide) ?_
    refine lv_iadd hx hb dl_317 ?_
    refine va_sld hx hb hX hbl hbA hS (i := (i + 1)) (hv 1 (by decide)) dl_318 ?_
    refine lv_if_eq (tgt := 326) hx hb dl_319 (by decide) (fun hq1 => ?_) (fun hq1 => ?_)
    · skip
      refine lv_iconst (v := 0) hx hb dl_326 (by decide) ?_
      refine W.eq (g2 := F0 m 327 ls ((([.int 0] : List Value).map (j_rv g)).reverse ++ .ref (ad 117) :: [])) rfl ?_
      refine j_lawV hC (as := [.int 0]) (a := 117) (rest := []) r2 dl_327 (j := 251) (Nat.le_of_ble_eq_true rfl) (by decide +kernel) (j_has_in (c := 8) (o := 72) (by decide +kernel)) (Nat.le_of_ble_eq_true rfl) HP_m (show 1 = j_np 251 from by decide +kernel) (show (lg_sl _).length ≤ 2 from Nat.le_of_ble_eq_true rfl) (Nat.le_of_ble_eq_true rfl) (show 8 + (2 + 11) + 20000 ≤ 84000 from Nat.le_of_ble_eq_true rfl) (Nat.le_of_ble_eq_true rfl) hl.1 hH1 hS hc hs (fun H2 locs2 hH2 hS2 => ?_)
      show W p l e room_1 s m #[Value.ref b] below meth c H2 locs2 _ _ (lw_Z below #[Value.ref b] s) (F0 m 330 ls [iV w2])
      have hS := hS2
      refine lv_pop hx hb dl_330 rfl ?_
      refine lv_goto (tgt := 1225) hx hb dl_331 (by decide) ?_
      refine lv_iinc (v := i + Int32.ofInt 6) (lv' := [(3, .int (i + Int32.ofInt 6)), (0, .ref b), (1, .ref (ad 9)), (2, .ref (ad 117))]) hx hb dl_1225 hl (k := 3) rfl rfl (by decide) rfl (fun ls hl => ?_)
      refine lv_goto (tgt := 18) hx hb dl_1228 (by decide) ?_
      exact K _ _ _ _ I2 hH2 hS hl
    · exact absurd hq0 hq1
  · skip
    refine lv_iconst (v := 1) hx hb dl_304 (by decide) ?_
    refine lv_goto (tgt := 309) hx hb dl_305 (by decide) ?_
    obtain ⟨n1, n2, w1, w2, τ, ρ, r1, r2, I2⟩ := pm_law_1 I 
    refine W.eq (g2 := F0 m 309 ls ((([.int 1] : List Value).map (j_rv g)).reverse ++ .ref (ad 9) :: [])) rfl ?_
    refine j_lawV hC (as := [.int 1]) (a := 9) (rest := []) r1 dl_309 (j := 74) (Nat.le_of_ble_eq_true rfl) (by decide +kernel) (j_has_in (c := 3) (o := 223) (by decide +kernel)) (Nat.le_of_ble_eq_true rfl) HP_x (show 1 = j_np 74 from by decide +kernel) (show (lg_sl _).length ≤ 3 from Nat.le_of_ble_eq_true rfl) (Nat.le_of_ble_eq_true rfl) (show 8 + (3 + 11) + 20000 ≤ 84000 from Nat.le_of_ble_eq_true rfl) (Nat.le_of_ble_eq_true rfl) hl.1 hH hS hc hs (fun H1 locs1 hH1 hS1 => ?_)
    show W p l e room_1 s m #[Value.ref b] below meth c H1 locs1 _ _ (lw_Z below #[Value.ref b] s) (F0 m 312 ls [iV w1])
    have hS := hS1
    refine lv_pop hx hb dl_312 rfl ?_
    refine lv_aload_n hx hb dl_313 rfl (lv_at hl 2 rfl) ?_
    refine lv_aload_n hx hb dl_314 rfl (lv_at hl 0 rfl) ?_
    refine lv_iload_n hx hb dl_315 rfl (lv_at hl 3 rfl) ?_
    refine lv_iconst (v := 1) hx hb dl_316 (by decide) ?_
    refine lv_iadd hx hb dl_317 ?_
    refine va_sld hx hb hX hbl hbA hS (i := (i + 1)) (hv 1 (by decide)) dl_318 ?_
    refine lv_if_eq (tgt := 326) hx hb dl_319 (by decide) (fun hq1 => ?_) (fun hq1 => ?_)
    · exact absurd hq1 hq0
    · skip
      refine lv_iconst (v := 1) hx hb dl_322 (by decide) ?_
      refine lv_goto (tgt := 327) hx hb dl_323 (by decide) ?_
      refine W.eq (g2 := F0 m 327 ls ((([.int 1] : List Value).map (j_rv g)).reverse ++ .ref (ad 117) :: [])) rfl ?_
      refine j_lawV hC (as := [.int 1]) (a := 117) (rest := []) r2 dl_327 (j := 251) (Nat.le_of_ble_eq_true rfl) (by decide +kernel) (j_has_in (c := 8) (o := 72) (by decide +kernel)) (Nat.le_of_ble_eq_true rfl) HP_m (show 1 = j_np 251 from by decide +kernel) (show (lg_sl _).length ≤ 2 from Nat.le_of_ble_eq_true rfl) (Nat.le_of_ble_eq_true rfl) (show 8 + (2 + 11) + 20000 ≤ 84000 from Nat.le_of_ble_eq_true rfl) (Nat.le_of_ble_eq_true rfl) hl.1 hH1 hS hc hs (fun H2 locs2 hH2 hS2 => ?_)
      show W p l e room_1 s m #[Value.ref b] below meth c H2 locs2 _ _ (lw_Z below #[Value.ref b] s) (F0 m 330 ls [iV w2])
      have hS := hS2
      refine lv_pop hx hb dl_330 rfl ?_
      refine lv_goto (tgt := 1225) hx hb dl_331 (by decide) ?_
      refine lv_iinc (v := i + Int32.ofInt 6) (lv' := [(3, .int (i + Int32.ofInt 6)), (0, .ref b), (1, .ref (ad 9)), (2, .ref (ad 117))]) hx hb dl_1225 hl (k := 3) rfl rfl (by decide) rfl (fun ls hl => ?_)
      refine lv_goto (tgt := 18) hx hb dl_1228 (by decide) ?_
      exact K _ _ _ _ I2 hH2 hS hl
set_option maxHeartbeats 4000000 in
theorem law_c6 {p : Program} {l : Launch} {e : Env} {s : State} {m : MethodId} {below : List Frame} {meth : Method} {c : Code} {b L : Nat} {xs : Nat → Int32} {g : Nat → Value} {ad : Nat → Nat} {D : va_G} {cA : Nat → ClassId} {H : Heap} {locs : List Loc} {cells slots : Nat} {ls : Array Slot} {i : Int32} {σ : jM} (C0 : lw_At p s m meth c b L xs) (hC : j_Cx g ad s.heap.size D cA vwCl j_TW j_zs j_ks "HundredWordsLaw" "law" code 4 p s m #[.ref b] meth c) (hv : ∀ d : Nat, d ≤ 5 → vp_in (i + Int32.ofNat d) L) (I : Inv σ) (hH : j_H g ad s.heap.size D cA vwCl s H (HP σ)) (hS : va_S (j_A s.heap.size) s.heap H locs) (hc : cells ≤ 600000) (hs : slots ≤ 7302250) (hl : lv_has ls 4 [(0, .ref b), (1, .ref (ad 9)), (2, .ref (ad 117)), (3, .int i)]) (K : ∀ (H2 : Heap) (locs2 : List Loc) (ls2 : Array Slot) (ρ : jM), Inv ρ → j_H g ad s.heap.size D cA vwCl s H2 (HP ρ) → va_S (j_A s.heap.size) s.heap H2 locs2 → lv_has ls2 4 [(3, .int (i + Int32.ofInt 6)), (0, .ref b), (1, .ref (ad 9)), (2, .ref (ad 117))] → W p l e room_1 s m #[Value.ref b] below meth c H2 locs2 cells slots (lw_Z below #[Value.ref b] s) (F0 m 18 ls2 [])) : W p l e room_1 s m #[Value.ref b] below meth c H locs cells slots (lw_Z below #[Value.ref b] s) (F0 m 380 ls []) := by
  obtain ⟨hx, hb, hr, hml, hown, hts, hX, hbl, hlocks, hgv⟩ := id C0
  have hbA : ¬ j_A s.heap.size b := Nat.not_le.mpr hbl
  refine lv_aload_n hx hb dl_380 rfl (lv_at hl 1 rfl) ?_
  refine lv_aload_n hx hb dl_381 rfl (lv_at hl 0 rfl) ?_
  refine lv_iload_n hx hb dl_382 rfl (lv_at hl 3 rfl) ?_
  refine lv_iconst (v := 1) hx hb dl_383 (by decide) ?_
  refine lv_iadd hx hb dl_384 ?_
  refine va_sld hx hb hX hbl hbA hS (i := (i + 1)) (hv 1 (by decide)) dl_385 ?_
  refine lv_aload_n hx hb dl_386 rfl (lv_at hl 0 rfl) ?_
  refine lv_iload_n hx hb dl_387 rfl (lv_at hl 3 rfl) ?_
  refine lv_iconst (v := 2) hx hb dl_388 (by decide) ?_
  refine lv_iadd hx hb dl_389 ?_
  refine va_sld hx hb hX hbl hbA hS (i := (i + 2)) (hv 2 (by decide)) dl_390 ?_
  obtain ⟨n1, n2, w1, w2, τ, ρ, r1, r2, I2⟩ := pm_letter I ((xs (Int32.toNatClampNeg (i + 1)))) ((xs (Int32.toNatClampNeg (i + 2))))
  refine W.eq (g2 := F0 m 391 ls ((([.int (xs (Int32.toNatClampNeg (i + 1))), .int (xs (Int32.toNatClampNeg (i + 2)))] : List Value).map (j_rv g)).reverse ++ .ref (ad 9) :: [])) rfl ?_
  refine j_lawV hC (as := [.int (xs (Int32.toNatClampNeg (i + 1))), .int (xs (Int32.toNatClampNeg (i + 2)))]) (a := 9) (rest := []) r1 dl_391 (j := 92) (Nat.le_of_ble_eq_true rfl) (by decide +kernel) (j_has_in (c := 4) (o := 72) (by decide +kernel)) (Nat.le_of_ble_eq_true rfl) HP_x (show 2 = j_np 92 from by decide +kernel) (show (lg_sl _).length ≤ 3 from Nat.le_of_ble_eq_true rfl) (Nat.le_of_ble_eq_true rfl) (show 8 + (3 + 11) + 20000 ≤ 84000 from Nat.le_of_ble_eq_true rfl) (Nat.le_of_ble_eq_true rfl) hl.1 hH hS hc hs (fun H1 locs1 hH1 hS1 => ?_)
  show W p l e room_1 s m #[Value.ref b] below meth c H1 locs1 _ _ (lw_Z below #[Value.ref b] s) (F0 m 394 ls [iV w1])
  have hS := hS1
  refine lv_pop hx hb dl_394 rfl ?_
  refine lv_aload_n hx hb dl_395 rfl (lv_at hl 2 rfl) ?_
  refine lv_aload_n hx hb dl_396 rfl (lv_at hl 0 rfl) ?_
  refine lv_iload_n hx hb dl_397 rfl (lv_at hl 3 rfl) ?_
  refine lv_iconst (v := 1) hx hb dl_398 (by decide) ?_
  refine lv_iadd hx hb dl_399 ?_
  refine va_sld hx hb hX hbl hbA hS (i := (i + 1)) (hv 1 (by decide)) dl_400 ?_
  refine lv_aload_n hx hb dl_401 rfl (lv_at hl 0 rfl) ?_
  refine lv_iload_n hx hb dl_402 rfl (lv_at hl 3 rfl) ?_
  refine lv_iconst (v := 2) hx hb dl_403 (by decide) ?_
  refine lv_iadd hx hb dl_404 ?_
  refine va_sld hx hb hX hbl hbA hS (i := (i + 2)) (hv 2 (by decide)) dl_405 ?_
  refine W.eq (g2 := F0 m 406 ls ((([.int (xs (Int32.toNatClampNeg (i + 1))), .int (xs (Int32.toNatClampNeg (i + 2)))] : List Value).map (j_rv g)).reverse ++ .ref (ad 117) :: [])) rfl ?_
  refine j_lawV hC (as := [.int (xs (Int32.toNatClampNeg (i + 1))), .int (xs (Int32.toNatClampNeg (i + 2)))]) (a := 117) (rest := []) r2 dl_406 (j := 266) (Nat.le_of_ble_eq_true rfl) (by decide +kernel) (j_has_in (c := 8) (o := 132) (by decide +kernel)) (Nat.le_of_ble_eq_true rfl) HP_m (show 2 = j_np 266 from by decide +kernel) (show (lg_sl _).length ≤ 8 from Nat.le_of_ble_eq_true rfl) (Nat.le_of_ble_eq_true rfl) (show 8 + (8 + 11) + 20000 ≤ 84000 from Nat.le_of_ble_eq_true rfl) (Nat.le_of_ble_eq_true rfl) hl.1 hH1 hS hc hs (fun H2 locs2 hH2 hS2 => ?_)
  show W p l e room_1 s m #[Value.ref b] below meth c H2 locs2 _ _ (lw_Z below #[Value.ref b] s) (F0 m 409 ls [iV w2])
  have hS := hS2
  refine lv_pop hx hb dl_409 rfl ?_
  refine lv_goto (tgt := 1225) hx hb dl_410 (by decide) ?_
  refine lv_iinc (v := i + Int32.ofInt 6) (lv' := [(3, .int (i + Int32.ofInt 6)), (0, .ref b), (1, .ref (ad 9)), (2, .ref (ad 117))]) hx hb dl_1225 hl (k := 3) rfl rfl (by decide) rfl (fun ls hl => ?_)
  refine lv_goto (tgt := 18) hx hb dl_1228 (by decide) ?_
  exact K _ _ _ _ I2 hH2 hS hl
set_option maxHeartbeats 4000000 in
theorem law_c9 {p : Program} {l : Launch} {e : Env} {s : State} {m : MethodId} {below : List Frame} {meth : Method} {c : Code} {b L : Nat} {xs : Nat → Int32} {g : Nat → Value} {ad : Nat → Nat} {D : va_G} {cA : Nat → ClassId} {H : Heap} {locs : List Loc} {cells slots : Nat} {ls : Array Slot} {i : Int32} {σ : jM} (C0 : lw_At p s m meth c b L xs) (hC : j_Cx g ad s.heap.size D cA vwCl j_TW j_zs j_ks "HundredWordsLaw" "law" code 4 p s m #[.ref b] meth c) (hv : ∀ d : Nat, d ≤ 5 → vp_in (i + Int32.ofNat d) L) (I : Inv σ) (hH : j_H g ad s.heap.size D cA vwCl s H (HP σ)) (hS : va_S (j_A s.heap.size) s.heap H locs) (hc : cells ≤ 600000) (hs : slots ≤ 7302250) (hl : lv_has ls 4 [(0, .ref b), (1, .ref (ad 9)), (2, .ref (ad 117)), (3, .int i)]) (K : ∀ (H2 : Heap) (locs2 : List Loc) (ls2 : Array Slot) (ρ : jM), Inv ρ → j_H g ad s.heap.size D cA vwCl s H2 (HP ρ) → va_S (j_A s.heap.size) s.heap H2 locs2 → lv_has ls2 4 [(3, .int (i + Int32.ofInt 6)), (0, .ref b), (1, .ref (ad 9)), (2, .ref (ad 117))] → W p l e room_1 s m #[Value.ref b] below meth c H2 locs2 cells slots (lw_Z below #[Value.ref b] s) (F0 m 18 ls2 [])) : W p l e room_1 s m #[Value.ref b] below meth c H locs cells slots (lw_Z below #[Value.ref b] s) (F0 m 511 ls []) := by
  obtain ⟨hx, hb, hr, hml, hown, hts, hX, hbl, hlocks, hgv⟩ := id C0
  have hbA : ¬ j_A s.heap.size b := Nat.not_le.mpr hbl
  refine lv_aload_n hx hb dl_511 rfl (lv_at hl 1 rfl) ?_
  refine lv_aload_n hx hb dl_512 rfl (lv_at hl 0 rfl) ?_
  refine lv_iload_n hx hb dl_513 rfl (lv_at hl 3 rfl) ?_
  refine lv_iconst (v := 1) hx hb dl_514 (by decide) ?_
  refine lv_iadd hx hb dl_515 ?_
  refine va_sld hx hb hX hbl hbA hS (i := (i + 1)) (hv 1 (by decide)) dl_516 ?_
  refine lv_if_eq (tgt := 524) hx hb dl_517 (by decide) (fun hq0 => ?_) (fun hq0 => ?_)
  · skip
    refine lv_iconst (v := 0) hx hb dl_524 (by decide) ?_
    refine lv_aload_n hx hb dl_525 rfl (lv_at hl 0 rfl) ?_
    refine lv_iload_n hx hb dl_526 rfl (lv_at hl 3 rfl) ?_
    refine lv_iconst (v := 2) hx hb dl_527 (by decide) ?_
    refine lv_iadd hx hb dl_528 ?_
    refine va_sld hx hb hX hbl hbA hS (i := (i + 2)) (hv 2 (by decide)) dl_529 ?_
    obtain ⟨n1, n2, w1, w2, τ, ρ, r1, r2, I2⟩ := pm_forbids_0 I ((xs (Int32.toNatClampNeg (i + 2))))
    refine W.eq (g2 := F0 m 530 ls ((([.int 0, .int (xs (Int32.toNatClampNeg (i + 2)))] : List Value).map (j_rv g)).reverse ++ .ref (ad 9) :: [])) rfl ?_
    refine j_lawV hC (as := [.int 0, .int (xs (Int32.toNatClampNeg (i + 2)))]) (a := 9) (rest := []) r1 dl_530 (j := 99) (Nat.le_of_ble_eq_true rfl) (by decide +kernel) (j_has_in (c := 4) (o := 102) (by decide +kernel)) (Nat.le_of_ble_eq_true rfl) HP_x (show 2 = j_np 99 from by decide +kernel) (show (lg_sl _).length ≤ 4 from Nat.le_of_ble_eq_true rfl) (Nat.le_of_ble_eq_true rfl) (show 8 + (4 + 11) + 20000 ≤ 84000 from Nat.le_of_ble_eq_true rfl) (Nat.le_of_ble_eq_true rfl) hl.1 hH hS hc hs (fun H1 locs1 hH1 hS1 => ?_)
    show W p l e room_1 s m #[Value.ref b] below meth c H1 locs1 _ _ (lw_Z below #[Value.ref b] s) (F0 m 533 ls [iV w1])
    have hS := hS1
    refine lv_pop hx hb dl_533 rfl ?_
    refine lv_aload_n hx hb dl_534 rfl (lv_at hl 2 rfl) ?_
    refine lv_aload_n hx hb dl_535 rfl (lv_at hl 0 rfl) ?_
    refine lv_iload_n hx hb dl_536 rfl (lv_at hl 3 rfl) ?_
    refine lv_iconst (v := 1) hx hb dl_537 (by decide) ?_
    refine lv_iadd hx hb dl_538 ?_
    refine va_sld hx hb hX hbl hbA hS (i := (i + 1)) (hv 1 (by decide)) dl_539 ?_
    refine lv_if_eq (tgt := 547) hx hb dl_540 (by decide) (fun hq1 => ?_) (fun hq1 => ?_)
    · skip
      refine lv_iconst (v := 0) hx hb dl_547 (by decide) ?_
      refine lv_aload_n hx hb dl_548 rfl (lv_at hl 0 rfl) ?_
      refine lv_iload_n hx hb dl_549 rfl (lv_at hl 3 rfl) ?_
      refine lv_iconst (v := 2) hx hb dl_550 (by decide) ?_
      refine lv_iadd hx hb dl_551 ?_
      refine va_sld hx hb hX hbl hbA hS (i := (i + 2)) (hv 2 (by decide)) dl_552 ?_
      refine W.eq (g2 := F0 m 553 ls ((([.int 0, .int (xs (Int32.toNatClampNeg (i + 2)))] : List Value).map (j_rv g)).reverse ++ .ref (ad 117) :: [])) rfl ?_
      refine j_lawV hC (as := [.int 0, .int (xs (Int32.toNatClampNeg (i + 2)))]) (a := 117) (rest := []) r2 dl_553 (j := 275) (Nat.le_of_ble_eq_true rfl) (by decide +kernel) (j_has_in (c := 8) (o := 168) (by decide +kernel)) (Nat.le_of_ble_eq_true rfl) HP_m (show 2 = j_np 275 from by decide +kernel) (show (lg_sl _).length ≤ 3 from Nat.le_of_ble_eq_true rfl) (Nat.le_of_ble_eq_true rfl) (show 8 + (3 + 11) + 20000 ≤ 84000 from Nat.le_of_ble_eq_true rfl) (Nat.le_of_ble_eq_true rfl) hl.1 hH1 hS hc hs (fun H2 locs2 hH2 hS2 => ?_)
      show W p l e room_1 s m #[Value.ref b] below meth c H2 locs2 _ _ (lw_Z below #[Value.ref b] s) (F0 m 556 ls [iV w2])
      have hS := hS2
      refine lv_pop hx hb dl_556 rfl ?_
      refine lv_goto (tgt := 1225) hx hb dl_557 (by decide) ?_
      refine lv_iinc (v := i + Int32.ofInt 6) (lv' := [(3, .int (i + Int32.ofInt 6)), (0, .ref b), (1, .ref (ad 9)), (2, .ref (ad 117))]) hx hb dl_1225 hl (k := 3) rfl rfl (by decide) rfl (fun ls hl => ?_)
      refine lv_goto (tgt := 18) hx hb dl_1228 (by decide) ?_
      exact K _ _ _ _ I2 hH2 hS hl
    · exact absurd hq0 hq1
  · skip
    refine lv_iconst (v := 1) hx hb dl_520 (by decide) ?_
    refine lv_goto (tgt := 525) hx hb dl_521 (by decide) ?_
    refine lv_aload_n hx hb dl_525 rfl (lv_at hl 0 rfl) ?_
    refine lv_iload_n hx hb dl_526 rfl (lv_at hl 3 rfl) ?_
    refine lv_iconst (v := 2) hx hb dl_527 (by decide) ?_
    refine lv_iadd hx hb dl_528 ?_
    refine va_sld hx hb hX hbl hbA hS (i := (i + 2)) (hv 2 (by decide)) dl_529 ?_
    obtain ⟨n1, n2, w1, w2, τ, ρ, r1, r2, I2⟩ := pm_forbids_1 I ((xs (Int32.toNatClampNeg (i + 2))))
    refine W.eq (g2 := F0 m 530 ls ((([.int 1, .int (xs (Int32.toNatClampNeg (i + 2)))] : List Value).map (j_rv g)).reverse ++ .ref (ad 9) :: [])) rfl ?_
    refine j_lawV hC (as := [.int 1, .int (xs (Int32.toNatClampNeg (i + 2)))]) (a := 9) (rest := []) r1 dl_530 (j := 99) (Nat.le_of_ble_eq_true rfl) (by decide +kernel) (j_has_in (c := 4) (o := 102) (by decide +kernel)) (Nat.le_of_ble_eq_true rfl) HP_x (show 2 = j_np 99 from by decide +kernel) (show (lg_sl _).length ≤ 4 from Nat.le_of_ble_eq_true rfl) (Nat.le_of_ble_eq_true rfl) (show 8 + (4 + 11) + 20000 ≤ 84000 from Nat.le_of_ble_eq_true rfl) (Nat.le_of_ble_eq_true rfl) hl.1 hH hS hc hs (fun H1 locs1 hH1 hS1 => ?_)
    show W p l e room_1 s m #[Value.ref b] below meth c H1 locs1 _ _ (lw_Z below #[Value.ref b] s) (F0 m 533 ls [iV w1])
    have hS := hS1
    refine lv_pop hx hb dl_533 rfl ?_
    refine lv_aload_n hx hb dl_534 rfl (lv_at hl 2 rfl) ?_
    refine lv_aload_n hx hb dl_535 rfl (lv_at hl 0 rfl) ?_
    refine lv_iload_n hx hb dl_536 rfl (lv_at hl 3 rfl) ?_
    refine lv_iconst (v := 1) hx hb dl_537 (by decide) ?_
    refine lv_iadd hx hb dl_538 ?_
    refine va_sld hx hb hX hbl hbA hS (i := (i + 1)) (hv 1 (by decide)) dl_539 ?_
    refine lv_if_eq (tgt := 547) hx hb dl_540 (by decide) (fun hq1 => ?_) (fun hq1 => ?_)
    · exact absurd hq1 hq0
    · skip
      refine lv_iconst (v := 1) hx hb dl_543 (by decide) ?_
      refine lv_goto (tgt := 548) hx hb dl_544 (by decide) ?_
      refine lv_aload_n hx hb dl_548 rfl (lv_at hl 0 rfl) ?_
      refine lv_iload_n hx hb dl_549 rfl (lv_at hl 3 rfl) ?_
      refine lv_iconst (v := 2) hx hb dl_550 (by decide) ?_
      refine lv_iadd hx hb dl_551 ?_
      refine va_sld hx hb hX hbl hbA hS (i := (i + 2)) (hv 2 (by decide)) dl_552 ?_
      refine W.eq (g2 := F0 m 553 ls ((([.int 1, .int (xs (Int32.toNatClampNeg (i + 2)))] : List Value).map (j_rv g)).reverse ++ .ref (ad 117) :: [])) rfl ?_
      refine j_lawV hC (as := [.int 1, .int (xs (Int32.toNatClampNeg (i + 2)))]) (a := 117) (rest := []) r2 dl_553 (j := 275) (Nat.le_of_ble_eq_true rfl) (by decide +kernel) (j_has_in (c := 8) (o := 168) (by decide +kernel)) (Nat.le_of_ble_eq_true rfl) HP_m (show 2 = j_np 275 from by decide +kernel) (show (lg_sl _).length ≤ 3 from Nat.le_of_ble_eq_true rfl) (Nat.le_of_ble_eq_true rfl) (show 8 + (3 + 11) + 20000 ≤ 84000 from Nat.le_of_ble_eq_true rfl) (Nat.le_of_ble_eq_true rfl) hl.1 hH1 hS hc hs (fun H2 locs2 hH2 hS2 => ?_)
      show W p l e room_1 s m #[Value.ref b] below meth c H2 locs2 _ _ (lw_Z below #[Value.ref b] s) (F0 m 556 ls [iV w2])
      have hS := hS2
      refine lv_pop hx hb dl_556 rfl ?_
      refine lv_goto (tgt := 1225) hx hb dl_557 (by decide) ?_
      refine lv_iinc (v := i + Int32.ofInt 6) (lv' := [(3, .int (i + Int32.ofInt 6)), (0, .ref b), (1, .ref (ad 9)), (2, .ref (ad 117))]) hx hb dl_1225 hl (k := 3) rfl rfl (by decide) rfl (fun ls hl => ?_)
      refine lv_goto (tgt := 18) hx hb dl_1228 (by decide) ?_
      exact K _ _ _ _ I2 hH2 hS hl
set_option maxHeartbeats 4000000 in
theorem law_c12 {p : Program} {l : Launch} {e : Env} {s : State} {m : MethodId} {below : List Frame} {meth : Method} {c : Code} {b L : Nat} {xs : Nat → Int32} {g : Nat → Value} {ad : Nat → Nat} {D : va_G} {cA : Nat → ClassId} {H : Heap} {locs : List Loc} {cells slots : Nat} {ls : Array Slot} {i : Int32} {σ : jM} (C0 : lw_At p s m meth c b L xs) (hC : j_Cx g ad s.heap.size D cA vwCl j_TW j_zs j_ks "HundredWordsLaw" "law" code 4 p s m #[.ref b] meth c) (hv : ∀ d : Nat, d ≤ 5 → vp_in (i + Int32.ofNat d) L) (I : Inv σ) (hH : j_H g ad s.heap.size D cA vwCl s H (HP σ)) (hS : va_S (j_A s.heap.size) s.heap H locs) (hc : cells ≤ 600000) (hs : slots ≤ 7302250) (hl : lv_has ls 4 [(0, .ref b), (1, .ref (ad 9)), (2, .ref (ad 117)), (3, .int i)]) (K : ∀ (H2 : Heap) (locs2 : List Loc) (ls2 : Array Slot) (ρ : jM), Inv ρ → j_H g ad s.heap.size D cA vwCl s H2 (HP ρ) → va_S (j_A s.heap.size) s.heap H2 locs2 → lv_has ls2 4 [(3, .int (i + Int32.ofInt 6)), (0, .ref b), (1, .ref (ad 9)), (2, .ref (ad 117))] → W p l e room_1 s m #[Value.ref b] below meth c H2 locs2 cells slots (lw_Z below #[Value.ref b] s) (F0 m 18 ls2 [])) : W p l e room_1 s m #[Value.ref b] below meth c H locs cells slots (lw_Z below #[Value.ref b] s) (F0 m 626 ls []) := by
  obtain ⟨hx, hb, hr, hml, hown, hts, hX, hbl, hlocks, hgv⟩ := id C0
  have hbA : ¬ j_A s.heap.size b := Nat.not_le.mpr hbl
  refine lv_aload_n hx hb dl_626 rfl (lv_at hl 1 rfl) ?_
  refine lv_aload_n hx hb dl_627 rfl (lv_at hl 0 rfl) ?_
  refine lv_iload_n hx hb dl_628 rfl (lv_at hl 3 rfl) ?_
  refine lv_iconst (v := 1) hx hb dl_629 (by decide) ?_
  refine lv_iadd hx hb dl_630 ?_
  refine va_sld hx hb hX hbl hbA hS (i := (i + 1)) (hv 1 (by decide)) dl_631 ?_
  obtain ⟨n1, n2, w1, w2, τ, ρ, r1, r2, I2⟩ := pm_price I ((xs (Int32.toNatClampNeg (i + 1))))
  refine W.eq (g2 := F0 m 632 ls ((([.int (xs (Int32.toNatClampNeg (i + 1)))] : List Value).map (j_rv g)).reverse ++ .ref (ad 9) :: [])) rfl ?_
  refine j_lawV hC (as := [.int (xs (Int32.toNatClampNeg (i + 1)))]) (a := 9) (rest := []) r1 dl_632 (j := 113) (Nat.le_of_ble_eq_true rfl) (by decide +kernel) (j_has_in (c := 4) (o := 157) (by decide +kernel)) (Nat.le_of_ble_eq_true rfl) HP_x (show 1 = j_np 113 from by decide +kernel) (show (lg_sl _).length ≤ 2 from Nat.le_of_ble_eq_true rfl) (Nat.le_of_ble_eq_true rfl) (show 8 + (2 + 11) + 20000 ≤ 84000 from Nat.le_of_ble_eq_true rfl) (Nat.le_of_ble_eq_true rfl) hl.1 hH hS hc hs (fun H1 locs1 hH1 hS1 => ?_)
  show W p l e room_1 s m #[Value.ref b] below meth c H1 locs1 _ _ (lw_Z below #[Value.ref b] s) (F0 m 635 ls [iV w1])
  have hS := hS1
  refine lv_pop hx hb dl_635 rfl ?_
  refine lv_aload_n hx hb dl_636 rfl (lv_at hl 2 rfl) ?_
  refine lv_aload_n hx hb dl_637 rfl (lv_at hl 0 rfl) ?_
  refine lv_iload_n hx hb dl_638 rfl (lv_at hl 3 rfl) ?_
  refine lv_iconst (v := 1) hx hb dl_639 (by decide) ?_
  refine lv_iadd hx hb dl_640 ?_
  refine va_sld hx hb hX hbl hbA hS (i := (i + 1)) (hv 1 (by decide)) dl_641 ?_
  refine W.eq (g2 := F0 m 642 ls ((([.int (xs (Int32.toNatClampNeg (i + 1)))] : List Value).map (j_rv g)).reverse ++ .ref (ad 117) :: [])) rfl ?_
  refine j_lawV hC (as := [.int (xs (Int32.toNatClampNeg (i + 1)))]) (a := 117) (rest := []) r2 dl_642 (j := 284) (Nat.le_of_ble_eq_true rfl) (by decide +kernel) (j_has_in (c := 8) (o := 204) (by decide +kernel)) (Nat.le_of_ble_eq_true rfl) HP_m (show 1 = j_np 284 from by decide +kernel) (show (lg_sl _).length ≤ 4 from Nat.le_of_ble_eq_true rfl) (Nat.le_of_ble_eq_true rfl) (show 8 + (4 + 11) + 20000 ≤ 84000 from Nat.le_of_ble_eq_true rfl) (Nat.le_of_ble_eq_true rfl) hl.1 hH1 hS hc hs (fun H2 locs2 hH2 hS2 => ?_)
  show W p l e room_1 s m #[Value.ref b] below meth c H2 locs2 _ _ (lw_Z below #[Value.ref b] s) (F0 m 645 ls [iV w2])
  have hS := hS2
  refine lv_pop hx hb dl_645 rfl ?_
  refine lv_goto (tgt := 1225) hx hb dl_646 (by decide) ?_
  refine lv_iinc (v := i + Int32.ofInt 6) (lv' := [(3, .int (i + Int32.ofInt 6)), (0, .ref b), (1, .ref (ad 9)), (2, .ref (ad 117))]) hx hb dl_1225 hl (k := 3) rfl rfl (by decide) rfl (fun ls hl => ?_)
  refine lv_goto (tgt := 18) hx hb dl_1228 (by decide) ?_
  exact K _ _ _ _ I2 hH2 hS hl
set_option maxHeartbeats 4000000 in
theorem law_c15 {p : Program} {l : Launch} {e : Env} {s : State} {m : MethodId} {below : List Frame} {meth : Method} {c : Code} {b L : Nat} {xs : Nat → Int32} {g : Nat → Value} {ad : Nat → Nat} {D : va_G} {cA : Nat → ClassId} {H : Heap} {locs : List Loc} {cells slots : Nat} {ls : Array Slot} {i : Int32} {σ : jM} (C0 : lw_At p s m meth c b L xs) (hC : j_Cx g ad s.heap.size D cA vwCl j_TW j_zs j_ks "HundredWordsLaw" "law" code 4 p s m #[.ref b] meth c) (hv : ∀ d : Nat, d ≤ 5 → vp_in (i + Int32.ofNat d) L) (I : Inv σ) (hH : j_H g ad s.heap.size D cA vwCl s H (HP σ)) (hS : va_S (j_A s.heap.size) s.heap H locs) (hc : cells ≤ 600000) (hs : slots ≤ 7302250) (hl : lv_has ls 4 [(0, .ref b), (1, .ref (ad 9)), (2, .ref (ad 117)), (3, .int i)]) (K : ∀ (H2 : Heap) (locs2 : List Loc) (ls2 : Array Slot) (ρ : jM), Inv ρ → j_H g ad s.heap.size D cA vwCl s H2 (HP ρ) → va_S (j_A s.heap.size) s.heap H2 locs2 → lv_has ls2 4 [(3, .int (i + Int32.ofInt 6)), (0, .ref b), (1, .ref (ad 9)), (2, .ref (ad 117))] → W p l e room_1 s m #[Value.ref b] below meth c H2 locs2 cells slots (lw_Z below #[Value.ref b] s) (F0 m 18 ls2 [])) : W p l e room_1 s m #[Value.ref b] below meth c H locs cells slots (lw_Z below #[Value.ref b] s) (F0 m 705 ls []) := by
  obtain ⟨hx, hb, hr, hml, hown, hts, hX, hbl, hlocks, hgv⟩ := id C0
  have hbA : ¬ j_A s.heap.size b := Nat.not_le.mpr hbl
  refine lv_aload_n hx hb dl_705 rfl (lv_at hl 1 rfl) ?_
  refine lv_aload_n hx hb dl_706 rfl (lv_at hl 0 rfl) ?_
  refine lv_iload_n hx hb dl_707 rfl (lv_at hl 3 rfl) ?_
  refine lv_iconst (v := 1) hx hb dl_708 (by decide) ?_
  refine lv_iadd hx hb dl_709 ?_
  refine va_sld hx hb hX hbl hbA hS (i := (i + 1)) (hv 1 (by decide)) dl_710 ?_
  refine lv_aload_n hx hb dl_711 rfl (lv_at hl 0 rfl) ?_
  refine lv_iload_n hx hb dl_712 rfl (lv_at hl 3 rfl) ?_
  refine lv_iconst (v := 2) hx hb dl_713 (by decide) ?_
  refine lv_iadd hx hb dl_714 ?_
  refine va_sld hx hb hX hbl hbA hS (i := (i + 2)) (hv 2 (by decide)) dl_715 ?_
  obtain ⟨n1, n2, w1, w2, τ, ρ, r1, r2, I2⟩ := pm_swap I ((xs (Int32.toNatClampNeg (i + 1)))) ((xs (Int32.toNatClampNeg (i + 2))))
  refine W.eq (g2 := F0 m 716 ls ((([.int (xs (Int32.toNatClampNeg (i + 1))), .int (xs (Int32.toNatClampNeg (i + 2)))] : List Value).map (j_rv g)).reverse ++ .ref (ad 9) :: [])) rfl ?_
  refine j_lawV hC (as := [.int (xs (Int32.toNatClampNeg (i + 1))), .int (xs (Int32.toNatClampNeg (i + 2)))]) (a := 9) (rest := []) r1 dl_716 (j := 119) (Nat.le_of_ble_eq_true rfl) (by decide +kernel) (j_has_in (c := 4) (o := 181) (by decide +kernel)) (Nat.le_of_ble_eq_true rfl) HP_x (show 2 = j_np 119 from by decide +kernel) (show (lg_sl _).length ≤ 3 from Nat.le_of_ble_eq_true rfl) (Nat.le_of_ble_eq_true rfl) (show 8 + (3 + 11) + 20000 ≤ 84000 from Nat.le_of_ble_eq_true rfl) (Nat.le_of_ble_eq_true rfl) hl.1 hH hS hc hs (fun H1 locs1 hH1 hS1 => ?_)
  show W p l e room_1 s m #[Value.ref b] below meth c H1 locs1 _ _ (lw_Z below #[Value.ref b] s) (F0 m 719 ls [iV w1])
  have hS := hS1
  refine lv_pop hx hb dl_719 rfl ?_
  refine lv_aload_n hx hb dl_720 rfl (lv_at hl 2 rfl) ?_
  refine lv_aload_n hx hb dl_721 rfl (lv_at hl 0 rfl) ?_
  refine lv_iload_n hx hb dl_722 rfl (lv_at hl 3 rfl) ?_
  refine lv_iconst (v := 1) hx hb dl_723 (by decide) ?_
  refine lv_iadd hx hb dl_724 ?_
  refine va_sld hx hb hX hbl hbA hS (i := (i + 1)) (hv 1 (by decide)) dl_725 ?_
  refine lv_aload_n hx hb dl_726 rfl (lv_at hl 0 rfl) ?_
  refine lv_iload_n hx hb dl_727 rfl (lv_at hl 3 rfl) ?_
  refine lv_iconst (v := 2) hx hb dl_728 (by decide) ?_
  refine lv_iadd hx hb dl_729 ?_
  refine va_sld hx hb hX hbl hbA hS (i := (i + 2)) (hv 2 (by decide)) dl_730 ?_
  refine W.eq (g2 := F0 m 731 ls ((([.int (xs (Int32.toNatClampNeg (i + 1))), .int (xs (Int32.toNatClampNeg (i + 2)))] : List Value).map (j_rv g)).reverse ++ .ref (ad 117) :: [])) rfl ?_
  refine j_lawV hC (as := [.int (xs (Int32.toNatClampNeg (i + 1))), .int (xs (Int32.toNatClampNeg (i + 2)))]) (a := 117) (rest := []) r2 dl_731 (j := 292) (Nat.le_of_ble_eq_true rfl) (by decide +kernel) (j_has_in (c := 8) (o := 237) (by decide +kernel)) (Nat.le_of_ble_eq_true rfl) HP_m (show 2 = j_np 292 from by decide +kernel) (show (lg_sl _).length ≤ 3 from Nat.le_of_ble_eq_true rfl) (Nat.le_of_ble_eq_true rfl) (show 8 + (3 + 11) + 20000 ≤ 84000 from Nat.le_of_ble_eq_true rfl) (Nat.le_of_ble_eq_true rfl) hl.1 hH1 hS hc hs (fun H2 locs2 hH2 hS2 => ?_)
  show W p l e room_1 s m #[Value.ref b] below meth c H2 locs2 _ _ (lw_Z below #[Value.ref b] s) (F0 m 734 ls [iV w2])
  have hS := hS2
  refine lv_pop hx hb dl_734 rfl ?_
  refine lv_goto (tgt := 1225) hx hb dl_735 (by decide) ?_
  refine lv_iinc (v := i + Int32.ofInt 6) (lv' := [(3, .int (i + Int32.ofInt 6)), (0, .ref b), (1, .ref (ad 9)), (2, .ref (ad 117))]) hx hb dl_1225 hl (k := 3) rfl rfl (by decide) rfl (fun ls hl => ?_)
  refine lv_goto (tgt := 18) hx hb dl_1228 (by decide) ?_
  exact K _ _ _ _ I2 hH2 hS hl
set_option maxHeartbeats 4000000 in
theorem law_c18 {p : Program} {l : Launch} {e : Env} {s : State} {m : MethodId} {below : List Frame} {meth : Method} {c : Code} {b L : Nat} {xs : Nat → Int32} {g : Nat → Value} {ad : Nat → Nat} {D : va_G} {cA : Nat → ClassId} {H : Heap} {locs : List Loc} {cells slots : Nat} {ls : Array Slot} {i : Int32} {σ : jM} (C0 : lw_At p s m meth c b L xs) (hC : j_Cx g ad s.heap.size D cA vwCl j_TW j_zs j_ks "HundredWordsLaw" "law" code 4 p s m #[.ref b] meth c) (hv : ∀ d : Nat, d ≤ 5 → vp_in (i + Int32.ofNat d) L) (I : Inv σ) (hH : j_H g ad s.heap.size D cA vwCl s H (HP σ)) (hS : va_S (j_A s.heap.size) s.heap H locs) (hc : cells ≤ 600000) (hs : slots ≤ 7302250) (hl : lv_has ls 4 [(0, .ref b), (1, .ref (ad 9)), (2, .ref (ad 117)), (3, .int i)]) (K : ∀ (H2 : Heap) (locs2 : List Loc) (ls2 : Array Slot) (ρ : jM), Inv ρ → j_H g ad s.heap.size D cA vwCl s H2 (HP ρ) → va_S (j_A s.heap.size) s.heap H2 locs2 → lv_has ls2 4 [(3, .int (i + Int32.ofInt 6)), (0, .ref b), (1, .ref (ad 9)), (2, .ref (ad 117))] → W p l e room_1 s m #[Value.ref b] below meth c H2 locs2 cells slots (lw_Z below #[Value.ref b] s) (F0 m 18 ls2 [])) : W p l e room_1 s m #[Value.ref b] below meth c H locs cells slots (lw_Z below #[Value.ref b] s) (F0 m 774 ls []) := by
  obtain ⟨hx, hb, hr, hml, hown, hts, hX, hbl, hlocks, hgv⟩ := id C0
  have hbA : ¬ j_A s.heap.size b := Nat.not_le.mpr hbl
  refine lv_aload_n hx hb dl_774 rfl (lv_at hl 1 rfl) ?_
  refine lv_aload_n hx hb dl_775 rfl (lv_at hl 0 rfl) ?_
  refine lv_iload_n hx hb dl_776 rfl (lv_at hl 3 rfl) ?_
  refine lv_iconst (v := 1) hx hb dl_777 (by decide) ?_
  refine lv_iadd hx hb dl_778 ?_
  refine va_sld hx hb hX hbl hbA hS (i := (i + 1)) (hv 1 (by decide)) dl_779 ?_
  refine lv_if_eq (tgt := 787) hx hb dl_780 (by decide) (fun hq0 => ?_) (fun hq0 => ?_)
  · skip
    refine lv_iconst (v := 0) hx hb dl_787 (by decide) ?_
    refine lv_aload_n hx hb dl_788 rfl (lv_at hl 0 rfl) ?_
    refine lv_iload_n hx hb dl_789 rfl (lv_at hl 3 rfl) ?_
    refine lv_iconst (v := 2) hx hb dl_790 (by decide) ?_
    refine lv_iadd hx hb dl_791 ?_
    refine va_sld hx hb hX hbl hbA hS (i := (i + 2)) (hv 2 (by decide)) dl_792 ?_
    obtain ⟨n1, n2, w1, w2, τ, ρ, r1, r2, I2⟩ := pm_fewest_0 I ((xs (Int32.toNatClampNeg (i + 2))))
    refine W.eq (g2 := F0 m 793 ls ((([.int 0, .int (xs (Int32.toNatClampNeg (i + 2)))] : List Value).map (j_rv g)).reverse ++ .ref (ad 9) :: [])) rfl ?_
    refine j_lawV hC (as := [.int 0, .int (xs (Int32.toNatClampNeg (i + 2)))]) (a := 9) (rest := []) r1 dl_793 (j := 124) (Nat.le_of_ble_eq_true rfl) (by decide +kernel) (j_has_in (c := 4) (o := 201) (by decide +kernel)) (Nat.le_of_ble_eq_true rfl) HP_x (show 2 = j_np 124 from by decide +kernel) (show (lg_sl _).length ≤ 4 from Nat.le_of_ble_eq_true rfl) (Nat.le_of_ble_eq_true rfl) (show 8 + (4 + 11) + 20000 ≤ 84000 from Nat.le_of_ble_eq_true rfl) (Nat.le_of_ble_eq_true rfl) hl.1 hH hS hc hs (fun H1 locs1 hH1 hS1 => ?_)
    show W p l e room_1 s m #[Value.ref b] below meth c H1 locs1 _ _ (lw_Z below #[Value.ref b] s) (F0 m 796 ls [iV w1])
    have hS := hS1
    refine lv_pop hx hb dl_796 rfl ?_
    refine lv_aload_n hx hb dl_797 rfl (lv_at hl 2 rfl) ?_
    refine lv_aload_n hx hb dl_798 rfl (lv_at hl 0 rfl) ?_
    refine lv_iload_n hx hb dl_799 rfl (lv_at hl 3 rfl) ?_
    refine lv_iconst (v := 1) hx hb dl_800 (by decide) ?_
    refine lv_iadd hx hb dl_801 ?_
    refine va_sld hx hb hX hbl hbA hS (i := (i + 1)) (hv 1 (by decide)) dl_802 ?_
    refine lv_if_eq (tgt := 810) hx hb dl_803 (by decide) (fun hq1 => ?_) (fun hq1 => ?_)
    · skip
      refine lv_iconst (v := 0) hx hb dl_810 (by decide) ?_
      refine lv_aload_n hx hb dl_811 rfl (lv_at hl 0 rfl) ?_
      refine lv_iload_n hx hb dl_812 rfl (lv_at hl 3 rfl) ?_
      refine lv_iconst (v := 2) hx hb dl_813 (by decide) ?_
      refine lv_iadd hx hb dl_814 ?_
      refine va_sld hx hb hX hbl hbA hS (i := (i + 2)) (hv 2 (by decide)) dl_815 ?_
      refine W.eq (g2 := F0 m 816 ls ((([.int 0, .int (xs (Int32.toNatClampNeg (i + 2)))] : List Value).map (j_rv g)).reverse ++ .ref (ad 117) :: [])) rfl ?_
      refine j_lawV hC (as := [.int 0, .int (xs (Int32.toNatClampNeg (i + 2)))]) (a := 117) (rest := []) r2 dl_816 (j := 294) (Nat.le_of_ble_eq_true rfl) (by decide +kernel) (j_has_in (c := 9) (o := 6) (by decide +kernel)) (Nat.le_of_ble_eq_true rfl) HP_m (show 2 = j_np 294 from by decide +kernel) (show (lg_sl _).length ≤ 3 from Nat.le_of_ble_eq_true rfl) (Nat.le_of_ble_eq_true rfl) (show 8 + (3 + 11) + 20000 ≤ 84000 from Nat.le_of_ble_eq_true rfl) (Nat.le_of_ble_eq_true rfl) hl.1 hH1 hS hc hs (fun H2 locs2 hH2 hS2 => ?_)
      show W p l e room_1 s m #[Value.ref b] below meth c H2 locs2 _ _ (lw_Z below #[Value.ref b] s) (F0 m 819 ls [iV w2])
      have hS := hS2
      refine lv_pop hx hb dl_819 rfl ?_
      refine lv_goto (tgt := 1225) hx hb dl_820 (by decide) ?_
      refine lv_iinc (v := i + Int32.ofInt 6) (lv' := [(3, .int (i + Int32.ofInt 6)), (0, .ref b), (1, .ref (ad 9)), (2, .ref (ad 117))]) hx hb dl_1225 hl (k := 3) rfl rfl (by decide) rfl (fun ls hl => ?_)
      refine lv_goto (tgt := 18) hx hb dl_1228 (by decide) ?_
      exact K _ _ _ _ I2 hH2 hS hl
    · exact absurd hq0 hq1
  · skip
    refine lv_iconst (v := 1) hx hb dl_783 (by decide) ?_
    refine lv_goto (tgt := 788) hx hb dl_784 (by decide) ?_
    refine lv_aload_n hx hb dl_788 rfl (lv_at hl 0 rfl) ?_
    refine lv_iload_n hx hb dl_789 rfl (lv_at hl 3 rfl) ?_
    refine lv_iconst (v := 2) hx hb dl_790 (by decide) ?_
    refine lv_iadd hx hb dl_791 ?_
    refine va_sld hx hb hX hbl hbA hS (i := (i + 2)) (hv 2 (by decide)) dl_792 ?_
    obtain ⟨n1, n2, w1, w2, τ, ρ, r1, r2, I2⟩ := pm_fewest_1 I ((xs (Int32.toNatClampNeg (i + 2))))
    refine W.eq (g2 := F0 m 793 ls ((([.int 1, .int (xs (Int32.toNatClampNeg (i + 2)))] : List Value).map (j_rv g)).reverse ++ .ref (ad 9) :: [])) rfl ?_
    refine j_lawV hC (as := [.int 1, .int (xs (Int32.toNatClampNeg (i + 2)))]) (a := 9) (rest := []) r1 dl_793 (j := 124) (Nat.le_of_ble_eq_true rfl) (by decide +kernel) (j_has_in (c := 4) (o := 201) (by decide +kernel)) (Nat.le_of_ble_eq_true rfl) HP_x (show 2 = j_np 124 from by decide +kernel) (show (lg_sl _).length ≤ 4 from Nat.le_of_ble_eq_true rfl) (Nat.le_of_ble_eq_true rfl) (show 8 + (4 + 11) + 20000 ≤ 84000 from Nat.le_of_ble_eq_true rfl) (Nat.le_of_ble_eq_true rfl) hl.1 hH hS hc hs (fun H1 locs1 hH1 hS1 => ?_)
    show W p l e room_1 s m #[Value.ref b] below meth c H1 locs1 _ _ (lw_Z below #[Value.ref b] s) (F0 m 796 ls [iV w1])
    have hS := hS1
    refine lv_pop hx hb dl_796 rfl ?_
    refine lv_aload_n hx hb dl_797 rfl (lv_at hl 2 rfl) ?_
    refine lv_aload_n hx hb dl_798 rfl (lv_at hl 0 rfl) ?_
    refine lv_iload_n hx hb dl_799 rfl (lv_at hl 3 rfl) ?_
    refine lv_iconst (v := 1) hx hb dl_800 (by decide) ?_
    refine lv_iadd hx hb dl_801 ?_
    refine va_sld hx hb hX hbl hbA hS (i := (i + 1)) (hv 1 (by decide)) dl_802 ?_
    refine lv_if_eq (tgt := 810) hx hb dl_803 (by decide) (fun hq1 => ?_) (fun hq1 => ?_)
    · exact absurd hq1 hq0
    · skip
      refine lv_iconst (v := 1) hx hb dl_806 (by decide) ?_
      refine lv_goto (tgt := 811) hx hb dl_807 (by decide) ?_
      refine lv_aload_n hx hb dl_811 rfl (lv_at hl 0 rfl) ?_
      refine lv_iload_n hx hb dl_812 rfl (lv_at hl 3 rfl) ?_
      refine lv_iconst (v := 2) hx hb dl_813 (by decide) ?_
      refine lv_iadd hx hb dl_814 ?_
      refine va_sld hx hb hX hbl hbA hS (i := (i + 2)) (hv 2 (by decide)) dl_815 ?_
      refine W.eq (g2 := F0 m 816 ls ((([.int 1, .int (xs (Int32.toNatClampNeg (i + 2)))] : List Value).map (j_rv g)).reverse ++ .ref (ad 117) :: [])) rfl ?_
      refine j_lawV hC (as := [.int 1, .int (xs (Int32.toNatClampNeg (i + 2)))]) (a := 117) (rest := []) r2 dl_816 (j := 294) (Nat.le_of_ble_eq_true rfl) (by decide +kernel) (j_has_in (c := 9) (o := 6) (by decide +kernel)) (Nat.le_of_ble_eq_true rfl) HP_m (show 2 = j_np 294 from by decide +kernel) (show (lg_sl _).length ≤ 3 from Nat.le_of_ble_eq_true rfl) (Nat.le_of_ble_eq_true rfl) (show 8 + (3 + 11) + 20000 ≤ 84000 from Nat.le_of_ble_eq_true rfl) (Nat.le_of_ble_eq_true rfl) hl.1 hH1 hS hc hs (fun H2 locs2 hH2 hS2 => ?_)
      show W p l e room_1 s m #[Value.ref b] below meth c H2 locs2 _ _ (lw_Z below #[Value.ref b] s) (F0 m 819 ls [iV w2])
      have hS := hS2
      refine lv_pop hx hb dl_819 rfl ?_
      refine lv_goto (tgt := 1225) hx hb dl_820 (by decide) ?_
      refine lv_iinc (v := i + Int32.ofInt 6) (lv' := [(3, .int (i + Int32.ofInt 6)), (0, .ref b), (1, .ref (ad 9)), (2, .ref (ad 117))]) hx hb dl_1225 hl (k := 3) rfl rfl (by decide) rfl (fun ls hl => ?_)
      refine lv_goto (tgt := 18) hx hb dl_1228 (by decide) ?_
      exact K _ _ _ _ I2 hH2 hS hl
set_option maxHeartbeats 4000000 in
theorem law_c21 {p : Program} {l : Launch} {e : Env} {s : State} {m : MethodId} {below : List Frame} {meth : Method} {c : Code} {b L : Nat} {xs : Nat → Int32} {g : Nat → Value} {ad : Nat → Nat} {D : va_G} {cA : Nat → ClassId} {H : Heap} {locs : List Loc} {cells slots : Nat} {ls : Array Slot} {i : Int32} {σ : jM} (C0 : lw_At p s m meth c b L xs) (hC : j_Cx g ad s.heap.size D cA vwCl j_TW j_zs j_ks "HundredWordsLaw" "law" code 4 p s m #[.ref b] meth c) (hv : ∀ d : Nat, d ≤ 5 → vp_in (i + Int32.ofNat d) L) (I : Inv σ) (hH : j_H g ad s.heap.size D cA vwCl s H (HP σ)) (hS : va_S (j_A s.heap.size) s.heap H locs) (hc : cells ≤ 600000) (hs : slots ≤ 7302250) (hl : lv_has ls 4 [(0, .ref b), (1, .ref (ad 9)), (2, .ref (ad 117)), (3, .int i)]) (K : ∀ (H2 : Heap) (locs2 : List Loc) (ls2 : Array Slot) (ρ : jM), Inv ρ → j_H g ad s.heap.size D cA vwCl s H2 (HP ρ) → va_S (j_A s.heap.size) s.heap H2 locs2 → lv_has ls2 4 [(3, .int (i + Int32.ofInt 6)), (0, .ref b), (1, .ref (ad 9)), (2, .ref (ad 117))] → W p l e room_1 s m #[Value.ref b] below meth c H2 locs2 cells slots (lw_Z below #[Value.ref b] s) (F0 m 18 ls2 [])) : W p l e room_1 s m #[Value.ref b] below meth c H locs cells slots (lw_Z below #[Value.ref b] s) (F0 m 869 ls []) := by
  obtain ⟨hx, hb, hr, hml, hown, hts, hX, hbl, hlocks, hgv⟩ := id C0
  have hbA : ¬ j_A s.heap.size b := Nat.not_le.mpr hbl
  refine lv_aload_n hx hb dl_869 rfl (lv_at hl 1 rfl) ?_
  obtain ⟨n1, n2, w1, w2, τ, ρ, r1, r2, I2⟩ := pm_way I 
  refine W.eq (g2 := F0 m 870 ls ((([] : List Value).map (j_rv g)).reverse ++ .ref (ad 9) :: [])) rfl ?_
  refine j_lawV hC (as := []) (a := 9) (rest := []) r1 dl_870 (j := 144) (Nat.le_of_ble_eq_true rfl) (by decide +kernel) (j_has_in (c := 5) (o := 46) (by decide +kernel)) (Nat.le_of_ble_eq_true rfl) HP_x (show 0 = j_np 144 from by decide +kernel) (show (lg_sl _).length ≤ 1 from Nat.le_of_ble_eq_true rfl) (Nat.le_of_ble_eq_true rfl) (show 8 + (1 + 11) + 20000 ≤ 84000 from Nat.le_of_ble_eq_true rfl) (Nat.le_of_ble_eq_true rfl) hl.1 hH hS hc hs (fun H1 locs1 hH1 hS1 => ?_)
  show W p l e room_1 s m #[Value.ref b] below meth c H1 locs1 _ _ (lw_Z below #[Value.ref b] s) (F0 m 873 ls [iV w1])
  have hS := hS1
  refine lv_pop hx hb dl_873 rfl ?_
  refine lv_aload_n hx hb dl_874 rfl (lv_at hl 2 rfl) ?_
  refine W.eq (g2 := F0 m 875 ls ((([] : List Value).map (j_rv g)).reverse ++ .ref (ad 117) :: [])) rfl ?_
  refine j_lawV hC (as := []) (a := 117) (rest := []) r2 dl_875 (j := 301) (Nat.le_of_ble_eq_true rfl) (by decide +kernel) (j_has_in (c := 9) (o := 35) (by decide +kernel)) (Nat.le_of_ble_eq_true rfl) HP_m (show 0 = j_np 301 from by decide +kernel) (show (lg_sl _).length ≤ 5 from Nat.le_of_ble_eq_true rfl) (Nat.le_of_ble_eq_true rfl) (show 8 + (5 + 11) + 20000 ≤ 84000 from Nat.le_of_ble_eq_true rfl) (Nat.le_of_ble_eq_true rfl) hl.1 hH1 hS hc hs (fun H2 locs2 hH2 hS2 => ?_)
  show W p l e room_1 s m #[Value.ref b] below meth c H2 locs2 _ _ (lw_Z below #[Value.ref b] s) (F0 m 878 ls [iV w2])
  have hS := hS2
  refine lv_pop hx hb dl_878 rfl ?_
  refine lv_goto (tgt := 1225) hx hb dl_879 (by decide) ?_
  refine lv_iinc (v := i + Int32.ofInt 6) (lv' := [(3, .int (i + Int32.ofInt 6)), (0, .ref b), (1, .ref (ad 9)), (2, .ref (ad 117))]) hx hb dl_1225 hl (k := 3) rfl rfl (by decide) rfl (fun ls hl => ?_)
  refine lv_goto (tgt := 18) hx hb dl_1228 (by decide) ?_
  exact K _ _ _ _ I2 hH2 hS hl
set_option maxHeartbeats 4000000 in
theorem law_c24 {p : Program} {l : Launch} {e : Env} {s : State} {m : MethodId} {below : List Frame} {meth : Method} {c : Code} {b L : Nat} {xs : Nat → Int32} {g : Nat → Value} {ad : Nat → Nat} {D : va_G} {cA : Nat → ClassId} {H : Heap} {locs : List Loc} {cells slots : Nat} {ls : Array Slot} {i : Int32} {σ : jM} (C0 : lw_At p s m meth c b L xs) (hC : j_Cx g ad s.heap.size D cA vwCl j_TW j_zs j_ks "HundredWordsLaw" "law" code 4 p s m #[.ref b] meth c) (hv : ∀ d : Nat, d ≤ 5 → vp_in (i + Int32.ofNat d) L) (I : Inv σ) (hH : j_H g ad s.heap.size D cA vwCl s H (HP σ)) (hS : va_S (j_A s.heap.size) s.heap H locs) (hc : cells ≤ 600000) (hs : slots ≤ 7302250) (hl : lv_has ls 4 [(0, .ref b), (1, .ref (ad 9)), (2, .ref (ad 117)), (3, .int i)]) (K : ∀ (H2 : Heap) (locs2 : List Loc) (ls2 : Array Slot) (ρ : jM), Inv ρ → j_H g ad s.heap.size D cA vwCl s H2 (HP ρ) → va_S (j_A s.heap.size) s.heap H2 locs2 → lv_has ls2 4 [(3, .int (i + Int32.ofInt 6)), (0, .ref b), (1, .ref (ad 9)), (2, .ref (ad 117))] → W p l e room_1 s m #[Value.ref b] below meth c H2 locs2 cells slots (lw_Z below #[Value.ref b] s) (F0 m 18 ls2 [])) : W p l e room_1 s m #[Value.ref b] below meth c H locs cells slots (lw_Z below #[Value.ref b] s) (F0 m 944 ls []) := by
  obtain ⟨hx, hb, hr, hml, hown, hts, hX, hbl, hlocks, hgv⟩ := id C0
  have hbA : ¬ j_A s.heap.size b := Nat.not_le.mpr hbl
  refine lv_aload_n hx hb dl_944 rfl (lv_at hl 1 rfl) ?_
  refine lv_aload_n hx hb dl_945 rfl (lv_at hl 0 rfl) ?_
  refine lv_iload_n hx hb dl_946 rfl (lv_at hl 3 rfl) ?_
  refine lv_iconst (v := 1) hx hb dl_947 (by decide) ?_
  refine lv_iadd hx hb dl_948 ?_
  refine va_sld hx hb hX hbl hbA hS (i := (i + 1)) (hv 1 (by decide)) dl_949 ?_
  refine lv_if_eq (tgt := 957) hx hb dl_950 (by decide) (fun hq0 => ?_) (fun hq0 => ?_)
  · skip
    refine lv_iconst (v := 0) hx hb dl_957 (by decide) ?_
    refine lv_aload_n hx hb dl_958 rfl (lv_at hl 0 rfl) ?_
    refine lv_iload_n hx hb dl_959 rfl (lv_at hl 3 rfl) ?_
    refine lv_iconst (v := 2) hx hb dl_960 (by decide) ?_
    refine lv_iadd hx hb dl_961 ?_
    refine va_sld hx hb hX hbl hbA hS (i := (i + 2)) (hv 2 (by decide)) dl_962 ?_
    obtain ⟨n1, n2, w1, w2, τ, ρ, r1, r2, I2⟩ := pm_worth_0 I ((xs (Int32.toNatClampNeg (i + 2))))
    refine W.eq (g2 := F0 m 963 ls ((([.int 0, .int (xs (Int32.toNatClampNeg (i + 2)))] : List Value).map (j_rv g)).reverse ++ .ref (ad 9) :: [])) rfl ?_
    refine j_lawV hC (as := [.int 0, .int (xs (Int32.toNatClampNeg (i + 2)))]) (a := 9) (rest := []) r1 dl_963 (j := 154) (Nat.le_of_ble_eq_true rfl) (by decide +kernel) (j_has_in (c := 5) (o := 88) (by decide +kernel)) (Nat.le_of_ble_eq_true rfl) HP_x (show 2 = j_np 154 from by decide +kernel) (show (lg_sl _).length ≤ 4 from Nat.le_of_ble_eq_true rfl) (Nat.le_of_ble_eq_true rfl) (show 8 + (4 + 11) + 20000 ≤ 84000 from Nat.le_of_ble_eq_true rfl) (Nat.le_of_ble_eq_true rfl) hl.1 hH hS hc hs (fun H1 locs1 hH1 hS1 => ?_)
    show W p l e room_1 s m #[Value.ref b] below meth c H1 locs1 _ _ (lw_Z below #[Value.ref b] s) (F0 m 966 ls [iV w1])
    have hS := hS1
    refine lv_pop hx hb dl_966 rfl ?_
    refine lv_aload_n hx hb dl_967 rfl (lv_at hl 2 rfl) ?_
    refine lv_aload_n hx hb dl_968 rfl (lv_at hl 0 rfl) ?_
    refine lv_iload_n hx hb dl_969 rfl (lv_at hl 3 rfl) ?_
    refine lv_iconst (v := 1) hx hb dl_970 (by decide) ?_
    refine lv_iadd hx hb dl_971 ?_
    refine va_sld hx hb hX hbl hbA hS (i := (i + 1)) (hv 1 (by decide)) dl_972 ?_
    refine lv_if_eq (tgt := 980) hx hb dl_973 (by decide) (fun hq1 => ?_) (fun hq1 => ?_)
    · skip
      refine lv_iconst (v := 0) hx hb dl_980 (by decide) ?_
      refine lv_aload_n hx hb dl_981 rfl (lv_at hl 0 rfl) ?_
      refine lv_iload_n hx hb dl_982 rfl (lv_at hl 3 rfl) ?_
      refine lv_iconst (v := 2) hx hb dl_983 (by decide) ?_
      refine lv_iadd hx hb dl_984 ?_
      refine va_sld hx hb hX hbl hbA hS (i := (i + 2)) (hv 2 (by decide)) dl_985 ?_
      refine W.eq (g2 := F0 m 986 ls ((([.int 0, .int (xs (Int32.toNatClampNeg (i + 2)))] : List Value).map (j_rv g)).reverse ++ .ref (ad 117) :: [])) rfl ?_
      refine j_lawV hC (as := [.int 0, .int (xs (Int32.toNatClampNeg (i + 2)))]) (a := 117) (rest := []) r2 dl_986 (j := 311) (Nat.le_of_ble_eq_true rfl) (by decide +kernel) (j_has_in (c := 9) (o := 73) (by decide +kernel)) (Nat.le_of_ble_eq_true rfl) HP_m (show 2 = j_np 311 from by decide +kernel) (show (lg_sl _).length ≤ 3 from Nat.le_of_ble_eq_true rfl) (Nat.le_of_ble_eq_true rfl) (show 8 + (3 + 11) + 20000 ≤ 84000 from Nat.le_of_ble_eq_true rfl) (Nat.le_of_ble_eq_true rfl) hl.1 hH1 hS hc hs (fun H2 locs2 hH2 hS2 => ?_)
      show W p l e room_1 s m #[Value.ref b] below meth c H2 locs2 _ _ (lw_Z below #[Value.ref b] s) (F0 m 989 ls [iV w2])
      have hS := hS2
      refine lv_pop hx hb dl_989 rfl ?_
      refine lv_goto (tgt := 1225) hx hb dl_990 (by decide) ?_
      refine lv_iinc (v := i + Int32.ofInt 6) (lv' := [(3, .int (i + Int32.ofInt 6)), (0, .ref b), (1, .ref (ad 9)), (2, .ref (ad 117))]) hx hb dl_1225 hl (k := 3) rfl rfl (by decide) rfl (fun ls hl => ?_)
      refine lv_goto (tgt := 18) hx hb dl_1228 (by decide) ?_
      exact K _ _ _ _ I2 hH2 hS hl
    · exact absurd hq0 hq1
  · skip
    refine lv_iconst (v := 1) hx hb dl_953 (by decide) ?_
    refine lv_goto (tgt := 958) hx hb dl_954 (by decide) ?_
    refine lv_aload_n hx hb dl_958 rfl (lv_at hl 0 rfl) ?_
    refine lv_iload_n hx hb dl_959 rfl (lv_at hl 3 rfl) ?_
    refine lv_iconst (v := 2) hx hb dl_960 (by decide) ?_
    refine lv_iadd hx hb dl_961 ?_
    refine va_sld hx hb hX hbl hbA hS (i := (i + 2)) (hv 2 (by decide)) dl_962 ?_
    obtain ⟨n1, n2, w1, w2, τ, ρ, r1, r2, I2⟩ := pm_worth_1 I ((xs (Int32.toNatClampNeg (i + 2))))
    refine W.eq (g2 := F0 m 963 ls ((([.int 1, .int (xs (Int32.toNatClampNeg (i + 2)))] : List Value).map (j_rv g)).reverse ++ .ref (ad 9) :: [])) rfl ?_
    refine j_lawV hC (as := [.int 1, .int (xs (Int32.toNatClampNeg (i + 2)))]) (a := 9) (rest := []) r1 dl_963 (j := 154) (Nat.le_of_ble_eq_true rfl) (by decide +kernel) (j_has_in (c := 5) (o := 88) (by decide +kernel)) (Nat.le_of_ble_eq_true rfl) HP_x (show 2 = j_np 154 from by decide +kernel) (show (lg_sl _).length ≤ 4 from Nat.le_of_ble_eq_true rfl) (Nat.le_of_ble_eq_true rfl) (show 8 + (4 + 11) + 20000 ≤ 84000 from Nat.le_of_ble_eq_true rfl) (Nat.le_of_ble_eq_true rfl) hl.1 hH hS hc hs (fun H1 locs1 hH1 hS1 => ?_)
    show W p l e room_1 s m #[Value.ref b] below meth c H1 locs1 _ _ (lw_Z below #[Value.ref b] s) (F0 m 966 ls [iV w1])
    have hS := hS1
    refine lv_pop hx hb dl_966 rfl ?_
    refine lv_aload_n hx hb dl_967 rfl (lv_at hl 2 rfl) ?_
    refine lv_aload_n hx hb dl_968 rfl (lv_at hl 0 rfl) ?_
    refine lv_iload_n hx hb dl_969 rfl (lv_at hl 3 rfl) ?_
    refine lv_iconst (v := 1) hx hb dl_970 (by decide) ?_
    refine lv_iadd hx hb dl_971 ?_
    refine va_sld hx hb hX hbl hbA hS (i := (i + 1)) (hv 1 (by decide)) dl_972 ?_
    refine lv_if_eq (tgt := 980) hx hb dl_973 (by decide) (fun hq1 => ?_) (fun hq1 => ?_)
    · exact absurd hq1 hq0
    · skip
      refine lv_iconst (v := 1) hx hb dl_976 (by decide) ?_
      refine lv_goto (tgt := 981) hx hb dl_977 (by decide) ?_
      refine lv_aload_n hx hb dl_981 rfl (lv_at hl 0 rfl) ?_
      refine lv_iload_n hx hb dl_982 rfl (lv_at hl 3 rfl) ?_
      refine lv_iconst (v := 2) hx hb dl_983 (by decide) ?_
      refine lv_iadd hx hb dl_984 ?_
      refine va_sld hx hb hX hbl hbA hS (i := (i + 2)) (hv 2 (by decide)) dl_985 ?_
      refine W.eq (g2 := F0 m 986 ls ((([.int 1, .int (xs (Int32.toNatClampNeg (i + 2)))] : List Value).map (j_rv g)).reverse ++ .ref (ad 117) :: [])) rfl ?_
      refine j_lawV hC (as := [.int 1, .int (xs (Int32.toNatClampNeg (i + 2)))]) (a := 117) (rest := []) r2 dl_986 (j := 311) (Nat.le_of_ble_eq_true rfl) (by decide +kernel) (j_has_in (c := 9) (o := 73) (by decide +kernel)) (Nat.le_of_ble_eq_true rfl) HP_m (show 2 = j_np 311 from by decide +kernel) (show (lg_sl _).length ≤ 3 from Nat.le_of_ble_eq_true rfl) (Nat.le_of_ble_eq_true rfl) (show 8 + (3 + 11) + 20000 ≤ 84000 from Nat.le_of_ble_eq_true rfl) (Nat.le_of_ble_eq_true rfl) hl.1 hH1 hS hc hs (fun H2 locs2 hH2 hS2 => ?_)
      show W p l e room_1 s m #[Value.ref b] below meth c H2 locs2 _ _ (lw_Z below #[Value.ref b] s) (F0 m 989 ls [iV w2])
      have hS := hS2
      refine lv_pop hx hb dl_989 rfl ?_
      refine lv_goto (tgt := 1225) hx hb dl_990 (by decide) ?_
      refine lv_iinc (v := i + Int32.ofInt 6) (lv' := [(3, .int (i + Int32.ofInt 6)), (0, .ref b), (1, .ref (ad 9)), (2, .ref (ad 117))]) hx hb dl_1225 hl (k := 3) rfl rfl (by decide) rfl (fun ls hl => ?_)
      refine lv_goto (tgt := 18) hx hb dl_1228 (by decide) ?_
      exact K _ _ _ _ I2 hH2 hS hl
set_option maxHeartbeats 4000000 in
theorem law_c27 {p : Program} {l : Launch} {e : Env} {s : State} {m : MethodId} {below : List Frame} {meth : Method} {c : Code} {b L : Nat} {xs : Nat → Int32} {g : Nat → Value} {ad : Nat → Nat} {D : va_G} {cA : Nat → ClassId} {H : Heap} {locs : List Loc} {cells slots : Nat} {ls : Array Slot} {i : Int32} {σ : jM} (C0 : lw_At p s m meth c b L xs) (hC : j_Cx g ad s.heap.size D cA vwCl j_TW j_zs j_ks "HundredWordsLaw" "law" code 4 p s m #[.ref b] meth c) (hv : ∀ d : Nat, d ≤ 5 → vp_in (i + Int32.ofNat d) L) (I : Inv σ) (hH : j_H g ad s.heap.size D cA vwCl s H (HP σ)) (hS : va_S (j_A s.heap.size) s.heap H locs) (hc : cells ≤ 600000) (hs : slots ≤ 7302250) (hl : lv_has ls 4 [(0, .ref b), (1, .ref (ad 9)), (2, .ref (ad 117)), (3, .int i)]) (K : ∀ (H2 : Heap) (locs2 : List Loc) (ls2 : Array Slot) (ρ : jM), Inv ρ → j_H g ad s.heap.size D cA vwCl s H2 (HP ρ) → va_S (j_A s.heap.size) s.heap H2 locs2 → lv_has ls2 4 [(3, .int (i + Int32.ofInt 6)), (0, .ref b), (1, .ref (ad 9)), (2, .ref (ad 117))] → W p l e room_1 s m #[Value.ref b] below meth c H2 locs2 cells slots (lw_Z below #[Value.ref b] s) (F0 m 18 ls2 [])) : W p l e room_1 s m #[Value.ref b] below meth c H locs cells slots (lw_Z below #[Value.ref b] s) (F0 m 1045 ls []) := by
  obtain ⟨hx, hb, hr, hml, hown, hts, hX, hbl, hlocks, hgv⟩ := id C0
  have hbA : ¬ j_A s.heap.size b := Nat.not_le.mpr hbl
  refine lv_aload_n hx hb dl_1045 rfl (lv_at hl 1 rfl) ?_
  refine lv_aload_n hx hb dl_1046 rfl (lv_at hl 0 rfl) ?_
  refine lv_iload_n hx hb dl_1047 rfl (lv_at hl 3 rfl) ?_
  refine lv_iconst (v := 1) hx hb dl_1048 (by decide) ?_
  refine lv_iadd hx hb dl_1049 ?_
  refine va_sld hx hb hX hbl hbA hS (i := (i + 1)) (hv 1 (by decide)) dl_1050 ?_
  obtain ⟨n1, n2, w1, w2, τ, ρ, r1, r2, I2⟩ := pm_spring I ((xs (Int32.toNatClampNeg (i + 1))))
  refine W.eq (g2 := F0 m 1051 ls ((([.int (xs (Int32.toNatClampNeg (i + 1)))] : List Value).map (j_rv g)).reverse ++ .ref (ad 9) :: [])) rfl ?_
  refine j_lawV hC (as := [.int (xs (Int32.toNatClampNeg (i + 1)))]) (a := 9) (rest := []) r1 dl_1051 (j := 163) (Nat.le_of_ble_eq_true rfl) (by decide +kernel) (j_has_in (c := 5) (o := 125) (by decide +kernel)) (Nat.le_of_ble_eq_true rfl) HP_x (show 1 = j_np 163 from by decide +kernel) (show (lg_sl _).length ≤ 3 from Nat.le_of_ble_eq_true rfl) (Nat.le_of_ble_eq_true rfl) (show 8 + (3 + 11) + 20000 ≤ 84000 from Nat.le_of_ble_eq_true rfl) (Nat.le_of_ble_eq_true rfl) hl.1 hH hS hc hs (fun H1 locs1 hH1 hS1 => ?_)
  show W p l e room_1 s m #[Value.ref b] below meth c H1 locs1 _ _ (lw_Z below #[Value.ref b] s) (F0 m 1054 ls [iV w1])
  have hS := hS1
  refine lv_pop hx hb dl_1054 rfl ?_
  refine lv_aload_n hx hb dl_1055 rfl (lv_at hl 2 rfl) ?_
  refine lv_aload_n hx hb dl_1056 rfl (lv_at hl 0 rfl) ?_
  refine lv_iload_n hx hb dl_1057 rfl (lv_at hl 3 rfl) ?_
  refine lv_iconst (v := 1) hx hb dl_1058 (by decide) ?_
  refine lv_iadd hx hb dl_1059 ?_
  refine va_sld hx hb hX hbl hbA hS (i := (i + 1)) (hv 1 (by decide)) dl_1060 ?_
  refine W.eq (g2 := F0 m 1061 ls ((([.int (xs (Int32.toNatClampNeg (i + 1)))] : List Value).map (j_rv g)).reverse ++ .ref (ad 117) :: [])) rfl ?_
  refine j_lawV hC (as := [.int (xs (Int32.toNatClampNeg (i + 1)))]) (a := 117) (rest := []) r2 dl_1061 (j := 319) (Nat.le_of_ble_eq_true rfl) (by decide +kernel) (j_has_in (c := 9) (o := 105) (by decide +kernel)) (Nat.le_of_ble_eq_true rfl) HP_m (show 1 = j_np 319 from by decide +kernel) (show (lg_sl _).length ≤ 3 from Nat.le_of_ble_eq_true rfl) (Nat.le_of_ble_eq_true rfl) (show 8 + (3 + 11) + 20000 ≤ 84000 from Nat.le_of_ble_eq_true rfl) (Nat.le_of_ble_eq_true rfl) hl.1 hH1 hS hc hs (fun H2 locs2 hH2 hS2 => ?_)
  show W p l e room_1 s m #[Value.ref b] below meth c H2 locs2 _ _ (lw_Z below #[Value.ref b] s) (F0 m 1064 ls [iV w2])
  have hS := hS2
  refine lv_pop hx hb dl_1064 rfl ?_
  refine lv_goto (tgt := 1225) hx hb dl_1065 (by decide) ?_
  refine lv_iinc (v := i + Int32.ofInt 6) (lv' := [(3, .int (i + Int32.ofInt 6)), (0, .ref b), (1, .ref (ad 9)), (2, .ref (ad 117))]) hx hb dl_1225 hl (k := 3) rfl rfl (by decide) rfl (fun ls hl => ?_)
  refine lv_goto (tgt := 18) hx hb dl_1228 (by decide) ?_
  exact K _ _ _ _ I2 hH2 hS hl
set_option maxHeartbeats 4000000 in
theorem law_c30 {p : Program} {l : Launch} {e : Env} {s : State} {m : MethodId} {below : List Frame} {meth : Method} {c : Code} {b L : Nat} {xs : Nat → Int32} {g : Nat → Value} {ad : Nat → Nat} {D : va_G} {cA : Nat → ClassId} {H : Heap} {locs : List Loc} {cells slots : Nat} {ls : Array Slot} {i : Int32} {σ : jM} (C0 : lw_At p s m meth c b L xs) (hC : j_Cx g ad s.heap.size D cA vwCl j_TW j_zs j_ks "HundredWordsLaw" "law" code 4 p s m #[.ref b] meth c) (hv : ∀ d : Nat, d ≤ 5 → vp_in (i + Int32.ofNat d) L) (I : Inv σ) (hH : j_H g ad s.heap.size D cA vwCl s H (HP σ)) (hS : va_S (j_A s.heap.size) s.heap H locs) (hc : cells ≤ 600000) (hs : slots ≤ 7302250) (hl : lv_has ls 4 [(0, .ref b), (1, .ref (ad 9)), (2, .ref (ad 117)), (3, .int i)]) (K : ∀ (H2 : Heap) (locs2 : List Loc) (ls2 : Array Slot) (ρ : jM), Inv ρ → j_H g ad s.heap.size D cA vwCl s H2 (HP ρ) → va_S (j_A s.heap.size) s.heap H2 locs2 → lv_has ls2 4 [(3, .int (i + Int32.ofInt 6)), (0, .ref b), (1, .ref (ad 9)), (2, .ref (ad 117))] → W p l e room_1 s m #[Value.ref b] below meth c H2 locs2 cells slots (lw_Z below #[Value.ref b] s) (F0 m 18 ls2 [])) : W p l e room_1 s m #[Value.ref b] below meth c H locs cells slots (lw_Z below #[Value.ref b] s) (F0 m 1104 ls []) := by
  obtain ⟨hx, hb, hr, hml, hown, hts, hX, hbl, hlocks, hgv⟩ := id C0
  have hbA : ¬ j_A s.heap.size b := Nat.not_le.mpr hbl
  refine lv_aload_n hx hb dl_1104 rfl (lv_at hl 1 rfl) ?_
  refine lv_aload_n hx hb dl_1105 rfl (lv_at hl 0 rfl) ?_
  refine lv_iload_n hx hb dl_1106 rfl (lv_at hl 3 rfl) ?_
  refine lv_iconst (v := 1) hx hb dl_1107 (by decide) ?_
  refine lv_iadd hx hb dl_1108 ?_
  refine va_sld hx hb hX hbl hbA hS (i := (i + 1)) (hv 1 (by decide)) dl_1109 ?_
  obtain ⟨n1, n2, w1, τ, ρ, r1, r2, I2⟩ := pm_seed I ((xs (Int32.toNatClampNeg (i + 1))))
  refine W.eq (g2 := F0 m 1110 ls ((([.int (xs (Int32.toNatClampNeg (i + 1)))] : List Value).map (j_rv g)).reverse ++ .ref (ad 9) :: [])) rfl ?_
  refine j_lawV hC (as := [.int (xs (Int32.toNatClampNeg (i + 1)))]) (a := 9) (rest := []) r1 dl_1110 (j := 168) (Nat.le_of_ble_eq_true rfl) (by decide +kernel) (j_has_in (c := 5) (o := 145) (by decide +kernel)) (Nat.le_of_ble_eq_true rfl) HP_x (show 1 = j_np 168 from by decide +kernel) (show (lg_sl _).length ≤ 2 from Nat.le_of_ble_eq_true rfl) (Nat.le_of_ble_eq_true rfl) (show 8 + (2 + 11) + 20000 ≤ 84000 from Nat.le_of_ble_eq_true rfl) (Nat.le_of_ble_eq_true rfl) hl.1 hH hS hc hs (fun H1 locs1 hH1 hS1 => ?_)
  show W p l e room_1 s m #[Value.ref b] below meth c H1 locs1 _ _ (lw_Z below #[Value.ref b] s) (F0 m 1113 ls [iV w1])
  have hS := hS1
  refine lv_aload_n hx hb dl_1113 rfl (lv_at hl 2 rfl) ?_
  refine lv_aload_n hx hb dl_1114 rfl (lv_at hl 0 rfl) ?_
  refine lv_iload_n hx hb dl_1115 rfl (lv_at hl 3 rfl) ?_
  refine lv_iconst (v := 1) hx hb dl_1116 (by decide) ?_
  refine lv_iadd hx hb dl_1117 ?_
  refine va_sld hx hb hX hbl hbA hS (i := (i + 1)) (hv 1 (by decide)) dl_1118 ?_
  refine W.eq (g2 := F0 m 1119 ls ((([.int (xs (Int32.toNatClampNeg (i + 1)))] : List Value).map (j_rv g)).reverse ++ .ref (ad 117) :: [iV w1])) rfl ?_
  refine j_lawV hC (as := [.int (xs (Int32.toNatClampNeg (i + 1)))]) (a := 117) (rest := [iV w1]) r2 dl_1119 (j := 322) (Nat.le_of_ble_eq_true rfl) (by decide +kernel) (j_has_in (c := 9) (o := 118) (by decide +kernel)) (Nat.le_of_ble_eq_true rfl) HP_m (show 1 = j_np 322 from by decide +kernel) (show (lg_sl _).length ≤ 2 from Nat.le_of_ble_eq_true rfl) (Nat.le_of_ble_eq_true rfl) (show 8 + (2 + 11) + 20000 ≤ 84000 from Nat.le_of_ble_eq_true rfl) (Nat.le_of_ble_eq_true rfl) hl.1 hH1 hS hc hs (fun H2 locs2 hH2 hS2 => ?_)
  show W p l e room_1 s m #[Value.ref b] below meth c H2 locs2 _ _ (lw_Z below #[Value.ref b] s) (F0 m 1122 ls [iV w1, iV w1])
  have hS := hS2
  refine lv_icmp_eq (tgt := 1225) hx hb dl_1122 (by decide) (fun hqe => ?_) (fun hqe => ?_)
  · skip
    refine lv_iinc (v := i + Int32.ofInt 6) (lv' := [(3, .int (i + Int32.ofInt 6)), (0, .ref b), (1, .ref (ad 9)), (2, .ref (ad 117))]) hx hb dl_1225 hl (k := 3) rfl rfl (by decide) rfl (fun ls hl => ?_)
    refine lv_goto (tgt := 18) hx hb dl_1228 (by decide) ?_
    exact K _ _ _ _ I2 hH2 hS hl
  · exact absurd rfl hqe
set_option maxHeartbeats 4000000 in
theorem law_c33 {p : Program} {l : Launch} {e : Env} {s : State} {m : MethodId} {below : List Frame} {meth : Method} {c : Code} {b L : Nat} {xs : Nat → Int32} {g : Nat → Value} {ad : Nat → Nat} {D : va_G} {cA : Nat → ClassId} {H : Heap} {locs : List Loc} {cells slots : Nat} {ls : Array Slot} {i : Int32} {σ : jM} (C0 : lw_At p s m meth c b L xs) (hC : j_Cx g ad s.heap.size D cA vwCl j_TW j_zs j_ks "HundredWordsLaw" "law" code 4 p s m #[.ref b] meth c) (hv : ∀ d : Nat, d ≤ 5 → vp_in (i + Int32.ofNat d) L) (I : Inv σ) (hH : j_H g ad s.heap.size D cA vwCl s H (HP σ)) (hS : va_S (j_A s.heap.size) s.heap H locs) (hc : cells ≤ 600000) (hs : slots ≤ 7302250) (hl : lv_has ls 4 [(0, .ref b), (1, .ref (ad 9)), (2, .ref (ad 117)), (3, .int i)]) (K : ∀ (H2 : Heap) (locs2 : List Loc) (ls2 : Array Slot) (ρ : jM), Inv ρ → j_H g ad s.heap.size D cA vwCl s H2 (HP ρ) → va_S (j_A s.heap.size) s.heap H2 locs2 → lv_has ls2 4 [(3, .int (i + Int32.ofInt 6)), (0, .ref b), (1, .ref (ad 9)), (2, .ref (ad 117))] → W p l e room_1 s m #[Value.ref b] below meth c H2 locs2 cells slots (lw_Z below #[Value.ref b] s) (F0 m 18 ls2 [])) : W p l e room_1 s m #[Value.ref b] below meth c H locs cells slots (lw_Z below #[Value.ref b] s) (F0 m 1153 ls []) := by
  obtain ⟨hx, hb, hr, hml, hown, hts, hX, hbl, hlocks, hgv⟩ := id C0
  have hbA : ¬ j_A s.heap.size b := Nat.not_le.mpr hbl
  refine lv_aload_n hx hb dl_1153 rfl (lv_at hl 1 rfl) ?_
  obtain ⟨n1, n2, w1, w2, τ, ρ, r1, r2, I2⟩ := pm_image I 
  refine W.eq (g2 := F0 m 1154 ls ((([] : List Value).map (j_rv g)).reverse ++ .ref (ad 9) :: [])) rfl ?_
  refine j_lawV hC (as := []) (a := 9) (rest := []) r1 dl_1154 (j := 200) (Nat.le_of_ble_eq_true rfl) (by decide +kernel) (j_has_in (c := 6) (o := 47) (by decide +kernel)) (Nat.le_of_ble_eq_true rfl) HP_x (show 0 = j_np 200 from by decide +kernel) (show (lg_sl _).length ≤ 1 from Nat.le_of_ble_eq_true rfl) (Nat.le_of_ble_eq_true rfl) (show 8 + (1 + 11) + 20000 ≤ 84000 from Nat.le_of_ble_eq_true rfl) (Nat.le_of_ble_eq_true rfl) hl.1 hH hS hc hs (fun H1 locs1 hH1 hS1 => ?_)
  show W p l e room_1 s m #[Value.ref b] below meth c H1 locs1 _ _ (lw_Z below #[Value.ref b] s) (F0 m 1157 ls [iV w1])
  have hS := hS1
  refine lv_pop hx hb dl_1157 rfl ?_
  refine lv_aload_n hx hb dl_1158 rfl (lv_at hl 2 rfl) ?_
  refine W.eq (g2 := F0 m 1159 ls ((([] : List Value).map (j_rv g)).reverse ++ .ref (ad 117) :: [])) rfl ?_
  refine j_lawV hC (as := []) (a := 117) (rest := []) r2 dl_1159 (j := 354) (Nat.le_of_ble_eq_true rfl) (by decide +kernel) (j_has_in (c := 10) (o := 10) (by decide +kernel)) (Nat.le_of_ble_eq_true rfl) HP_m (show 0 = j_np 354 from by decide +kernel) (show (lg_sl _).length ≤ 3 from Nat.le_of_ble_eq_true rfl) (Nat.le_of_ble_eq_true rfl) (show 8 + (3 + 11) + 20000 ≤ 84000 from Nat.le_of_ble_eq_true rfl) (Nat.le_of_ble_eq_true rfl) hl.1 hH1 hS hc hs (fun H2 locs2 hH2 hS2 => ?_)
  show W p l e room_1 s m #[Value.ref b] below meth c H2 locs2 _ _ (lw_Z below #[Value.ref b] s) (F0 m 1162 ls [iV w2])
  have hS := hS2
  refine lv_pop hx hb dl_1162 rfl ?_
  refine lv_goto (tgt := 1225) hx hb dl_1163 (by decide) ?_
  refine lv_iinc (v := i + Int32.ofInt 6) (lv' := [(3, .int (i + Int32.ofInt 6)), (0, .ref b), (1, .ref (ad 9)), (2, .ref (ad 117))]) hx hb dl_1225 hl (k := 3) rfl rfl (by decide) rfl (fun ls hl => ?_)
  refine lv_goto (tgt := 18) hx hb dl_1228 (by decide) ?_
  exact K _ _ _ _ I2 hH2 hS hl
set_option maxHeartbeats 4000000 in
theorem law_c36 {p : Program} {l : Launch} {e : Env} {s : State} {m : MethodId} {below : List Frame} {meth : Method} {c : Code} {b L : Nat} {xs : Nat → Int32} {g : Nat → Value} {ad : Nat → Nat} {D : va_G} {cA : Nat → ClassId} {H : Heap} {locs : List Loc} {cells slots : Nat} {ls : Array Slot} {i : Int32} {σ : jM} (C0 : lw_At p s m meth c b L xs) (hC : j_Cx g ad s.heap.size D cA vwCl j_TW j_zs j_ks "HundredWordsLaw" "law" code 4 p s m #[.ref b] meth c) (hv : ∀ d : Nat, d ≤ 5 → vp_in (i + Int32.ofNat d) L) (I : Inv σ) (hH : j_H g ad s.heap.size D cA vwCl s H (HP σ)) (hS : va_S (j_A s.heap.size) s.heap H locs) (hc : cells ≤ 600000) (hs : slots ≤ 7302250) (hl : lv_has ls 4 [(0, .ref b), (1, .ref (ad 9)), (2, .ref (ad 117)), (3, .int i)]) (K : ∀ (H2 : Heap) (locs2 : List Loc) (ls2 : Array Slot) (ρ : jM), Inv ρ → j_H g ad s.heap.size D cA vwCl s H2 (HP ρ) → va_S (j_A s.heap.size) s.heap H2 locs2 → lv_has ls2 4 [(3, .int (i + Int32.ofInt 6)), (0, .ref b), (1, .ref (ad 9)), (2, .ref (ad 117))] → W p l e room_1 s m #[Value.ref b] below meth c H2 locs2 cells slots (lw_Z below #[Value.ref b] s) (F0 m 18 ls2 [])) : W p l e room_1 s m #[Value.ref b] below meth c H locs cells slots (lw_Z below #[Value.ref b] s) (F0 m 1202 ls []) := by
  obtain ⟨hx, hb, hr, hml, hown, hts, hX, hbl, hlocks, hgv⟩ := id C0
  have hbA : ¬ j_A s.heap.size b := Nat.not_le.mpr hbl
  refine lv_aload_n hx hb dl_1202 rfl (lv_at hl 1 rfl) ?_
  refine lv_aload_n hx hb dl_1203 rfl (lv_at hl 0 rfl) ?_
  refine lv_iload_n hx hb dl_1204 rfl (lv_at hl 3 rfl) ?_
  refine lv_iconst (v := 1) hx hb dl_1205 (by decide) ?_
  refine lv_iadd hx hb dl_1206 ?_
  refine va_sld hx hb hX hbl hbA hS (i := (i + 1)) (hv 1 (by decide)) dl_1207 ?_
  obtain ⟨n1, n2, w1, w2, τ, ρ, r1, r2, I2⟩ := pm_status I ((xs (Int32.toNatClampNeg (i + 1))))
  refine W.eq (g2 := F0 m 1208 ls ((([.int (xs (Int32.toNatClampNeg (i + 1)))] : List Value).map (j_rv g)).reverse ++ .ref (ad 9) :: [])) rfl ?_
  refine j_lawV hC (as := [.int (xs (Int32.toNatClampNeg (i + 1)))]) (a := 9) (rest := []) r1 dl_1208 (j := 210) (Nat.le_of_ble_eq_true rfl) (by decide +kernel) (j_has_in (c := 6) (o := 91) (by decide +kernel)) (Nat.le_of_ble_eq_true rfl) HP_x (show 1 = j_np 210 from by decide +kernel) (show (lg_sl _).length ≤ 2 from Nat.le_of_ble_eq_true rfl) (Nat.le_of_ble_eq_true rfl) (show 8 + (2 + 11) + 20000 ≤ 84000 from Nat.le_of_ble_eq_true rfl) (Nat.le_of_ble_eq_true rfl) hl.1 hH hS hc hs (fun H1 locs1 hH1 hS1 => ?_)
  show W p l e room_1 s m #[Value.ref b] below meth c H1 locs1 _ _ (lw_Z below #[Value.ref b] s) (F0 m 1211 ls [iV w1])
  have hS := hS1
  refine lv_pop hx hb dl_1211 rfl ?_
  refine lv_aload_n hx hb dl_1212 rfl (lv_at hl 2 rfl) ?_
  refine lv_aload_n hx hb dl_1213 rfl (lv_at hl 0 rfl) ?_
  refine lv_iload_n hx hb dl_1214 rfl (lv_at hl 3 rfl) ?_
  refine lv_iconst (v := 1) hx hb dl_1215 (by decide) ?_
  refine lv_iadd hx hb dl_1216 ?_
  refine va_sld hx hb hX hbl hbA hS (i := (i + 1)) (hv 1 (by decide)) dl_1217 ?_
  refine W.eq (g2 := F0 m 1218 ls ((([.int (xs (Int32.toNatClampNeg (i + 1)))] : List Value).map (j_rv g)).reverse ++ .ref (ad 117) :: [])) rfl ?_
  refine j_lawV hC (as := [.int (xs (Int32.toNatClampNeg (i + 1)))]) (a := 117) (rest := []) r2 dl_1218 (j := 359) (Nat.le_of_ble_eq_true rfl) (by decide +kernel) (j_has_in (c := 10) (o := 29) (by decide +kernel)) (Nat.le_of_ble_eq_true rfl) HP_m (show 1 = j_np 359 from by decide +kernel) (show (lg_sl _).length ≤ 2 from Nat.le_of_ble_eq_true rfl) (Nat.le_of_ble_eq_true rfl) (show 8 + (2 + 11) + 20000 ≤ 84000 from Nat.le_of_ble_eq_true rfl) (Nat.le_of_ble_eq_true rfl) hl.1 hH1 hS hc hs (fun H2 locs2 hH2 hS2 => ?_)
  show W p l e room_1 s m #[Value.ref b] below meth c H2 locs2 _ _ (lw_Z below #[Value.ref b] s) (F0 m 1221 ls [iV w2])
  have hS := hS2
  refine lv_pop hx hb dl_1221 rfl ?_
  refine lv_goto (tgt := 1225) hx hb dl_1222 (by decide) ?_
  refine lv_iinc (v := i + Int32.ofInt 6) (lv' := [(3, .int (i + Int32.ofInt 6)), (0, .ref b), (1, .ref (ad 9)), (2, .ref (ad 117))]) hx hb dl_1225 hl (k := 3) rfl rfl (by decide) rfl (fun ls hl => ?_)
  refine lv_goto (tgt := 18) hx hb dl_1228 (by decide) ?_
  exact K _ _ _ _ I2 hH2 hS hl
