set_option maxHeartbeats 4000000 in
theorem law_c1 {p : Program} {l : Launch} {e : Env} {s : State} {m : MethodId} {below : List Frame} {meth : Method} {c : Code} {b L : Nat} {xs : Nat → Int32} {g : Nat → Value} {ad : Nat → Nat} {D : va_G} {cA : Nat → ClassId} {H : Heap} {locs : List Loc} {cells slots : Nat} {ls : Array Slot} {i : Int32} {σ : jM} (C0 : lw_At p s m meth c b L xs) (hC : j_Cx g ad s.heap.size D cA vwCl j_TW j_zs j_ks "HundredWordsLaw" "law" code 4 p s m #[.ref b] meth c) (hv : ∀ d : Nat, d ≤ 5 → vp_in (i + Int32.ofNat d) L) (I : Inv σ) (hH : j_H g ad s.heap.size D cA vwCl s H (HP σ)) (hS : va_S (j_A s.heap.size) s.heap H locs) (hc : cells ≤ 600000) (hs : slots ≤ 7302250) (hl : lv_has ls 4 [(0, .ref b), (1, .ref (ad 9)), (2, .ref (ad 117)), (3, .int i)]) (K : ∀ (H2 : Heap) (locs2 : List Loc) (ls2 : Array Slot) (ρ : jM), Inv ρ → j_H g ad s.heap.size D cA vwCl s H2 (HP ρ) → va_S (j_A s.heap.size) s.heap H2 locs2 → lv_has ls2 4 [(3, .int (i + Int32.ofInt 6)), (0, .ref b), (1, .ref (ad 9)), (2, .ref (ad 117))] → W p l e room_1 s m #[Value.ref b] below meth c H2 locs2 cells slots (lw_Z below #[Value.ref b] s) (F0 m 18 ls2 [])) : W p l e room_1 s m #[Value.ref b] below meth c H locs cells slots (lw_Z below #[Value.ref b] s) (F0 m 259 ls []) := by
  obtain ⟨hx, hb, hr, hml, hown, hts, hX, hbl, hlocks, hgv⟩ := id C0
  have hbA : ¬ j_A s.heap.size b := Nat.not_le.mpr hbl
  refine lv_aload_n hx hb dl_259 rfl (lv_at hl 1 rfl) ?_
  refine lv_aload_n hx hb dl_260 rfl (lv_at hl 0 rfl) ?_
  refine lv_iload_n hx hb dl_261 rfl (lv_at hl 3 rfl) ?_
  refine lv_iconst (v := 1) hx hb dl_262 (by decide) ?_
  refine lv_iadd hx hb dl_263 ?_
  refine va_sld hx hb hX hbl hbA hS (i := (i + 1)) (hv 1 (by decide)) dl_264 ?_
  obtain ⟨n1, n2, w1, w2, τ, ρ, r1, r2, I2⟩ := pm_end I ((xs (Int32.toNatClampNeg (i + 1))))
  refine W.eq (g2 := F0 m 265 ls ((([.int (xs (Int32.toNatClampNeg (i + 1)))] : List Value).map (j_rv g)).reverse ++ .ref (ad 9) :: [])) rfl ?_
  refine j_lawV hC (as := [.int (xs (Int32.toNatClampNeg (i + 1)))]) (a := 9) (rest := []) r1 dl_265 (j := 27) (Nat.le_of_ble_eq_true rfl) (by decide +kernel) (j_has_in (c := 3) (o := 32) (by decide +kernel)) (Nat.le_of_ble_eq_true rfl) HP_x (show 1 = j_np 27 from by decide +kernel) (show (lg_sl _).length ≤ 2 from Nat.le_of_ble_eq_true rfl) (Nat.le_of_ble_eq_true rfl) (show 8 + (2 + 11) + 20000 ≤ 84000 from Nat.le_of_ble_eq_true rfl) (Nat.le_of_ble_eq_true rfl) hl.1 hH hS hc hs (fun H1 locs1 hH1 hS1 => ?_)
  show W p l e room_1 s m #[Value.ref b] below meth c H1 locs1 _ _ (lw_Z below #[Value.ref b] s) (F0 m 268 ls [iV w1])
  have hS := hS1
  refine lv_pop hx hb dl_268 rfl ?_
  refine lv_aload_n hx hb dl_269 rfl (lv_at hl 2 rfl) ?_
  refine lv_aload_n hx hb dl_270 rfl (lv_at hl 0 rfl) ?_
  refine lv_iload_n hx hb dl_271 rfl (lv_at hl 3 rfl) ?_
  refine lv_iconst (v := 1) hx hb dl_272 (by decide) ?_
  refine lv_iadd hx hb dl_273 ?_
  refine va_sld hx hb hX hbl hbA hS (i := (i + 1)) (hv 1 (by decide)) dl_274 ?_
  refine W.eq (g2 := F0 m 275 ls ((([.int (xs (Int32.toNatClampNeg (i + 1)))] : List Value).map (j_rv g)).reverse ++ .ref (ad 117) :: [])) rfl ?_
  refine j_lawV hC (as := [.int (xs (Int32.toNatClampNeg (i + 1)))]) (a := 117) (rest := []) r2 dl_275 (j := 213) (Nat.le_of_ble_eq_true rfl) (by decide +kernel) (j_has_in (c := 7) (o := 161) (by decide +kernel)) (Nat.le_of_ble_eq_true rfl) HP_m (show 1 = j_np 213 from by decide +kernel) (show (lg_sl _).length ≤ 2 from Nat.le_of_ble_eq_true rfl) (Nat.le_of_ble_eq_true rfl) (show 8 + (2 + 11) + 20000 ≤ 84000 from Nat.le_of_ble_eq_true rfl) (Nat.le_of_ble_eq_true rfl) hl.1 hH1 hS hc hs (fun H2 locs2 hH2 hS2 => ?_)
  show W p l e room_1 s m #[Value.ref b] below meth c H2 locs2 _ _ (lw_Z below #[Value.ref b] s) (F0 m 278 ls [iV w2])
  have hS := hS2
  refine lv_pop hx hb dl_278 rfl ?_
  refine lv_goto (tgt := 1225) hx hb dl_279 (by decide) ?_
  refine lv_iinc (v := i + Int32.ofInt 6) (lv' := [(3, .int (i + Int32.ofInt 6)), (0, .ref b), (1, .ref (ad 9)), (2, .ref (ad 117))]) hx hb dl_1225 hl (k := 3) rfl rfl (by decide) rfl (fun ls hl => ?_)
  refine lv_goto (tgt := 18) hx hb dl_1228 (by decide) ?_
  exact K _ _ _ _ I2 hH2 hS hl
set_option maxHeartbeats 4000000 in
theorem law_c4 {p : Program} {l : Launch} {e : Env} {s : State} {m : MethodId} {below : List Frame} {meth : Method} {c : Code} {b L : Nat} {xs : Nat → Int32} {g : Nat → Value} {ad : Nat → Nat} {D : va_G} {cA : Nat → ClassId} {H : Heap} {locs : List Loc} {cells slots : Nat} {ls : Array Slot} {i : Int32} {σ : jM} (C0 : lw_At p s m meth c b L xs) (hC : j_Cx g ad s.heap.size D cA vwCl j_TW j_zs j_ks "HundredWordsLaw" "law" code 4 p s m #[.ref b] meth c) (hv : ∀ d : Nat, d ≤ 5 → vp_in (i + Int32.ofNat d) L) (I : Inv σ) (hH : j_H g ad s.heap.size D cA vwCl s H (HP σ)) (hS : va_S (j_A s.heap.size) s.heap H locs) (hc : cells ≤ 600000) (hs : slots ≤ 7302250) (hl : lv_has ls 4 [(0, .ref b), (1, .ref (ad 9)), (2, .ref (ad 117)), (3, .int i)]) (K : ∀ (H2 : Heap) (locs2 : List Loc) (ls2 : Array Slot) (ρ : jM), Inv ρ → j_H g ad s.heap.size D cA vwCl s H2 (HP ρ) → va_S (j_A s.heap.size) s.heap H2 locs2 → lv_has ls2 4 [(3, .int (i + Int32.ofInt 6)), (0, .ref b), (1, .ref (ad 9)), (2, .ref (ad 117))] → W p l e room_1 s m #[Value.ref b] below meth c H2 locs2 cells slots (lw_Z below #[Value.ref b] s) (F0 m 18 ls2 [])) : W p l e room_1 s m #[Value.ref b] below meth c H locs cells slots (lw_Z below #[Value.ref b] s) (F0 m 334 ls []) := by
  obtain ⟨hx, hb, hr, hml, hown, hts, hX, hbl, hlocks, hgv⟩ := id C0
  have hbA : ¬ j_A s.heap.size b := Nat.not_le.mpr hbl
  refine lv_aload_n hx hb dl_334 rfl (lv_at hl 1 rfl) ?_
  refine lv_aload_n hx hb dl_335 rfl (lv_at hl 0 rfl) ?_
  refine lv_iload_n hx hb dl_336 rfl (lv_at hl 3 rfl) ?_
  refine lv_iconst (v := 1) hx hb dl_337 (by decide) ?_
  refine lv_iadd hx hb dl_338 ?_
  refine va_sld hx hb hX hbl hbA hS (i := (i + 1)) (hv 1 (by decide)) dl_339 ?_
  obtain ⟨n1, n2, w1, w2, τ, ρ, r1, r2, I2⟩ := pm_fault I ((xs (Int32.toNatClampNeg (i + 1))))
  refine W.eq (g2 := F0 m 340 ls ((([.int (xs (Int32.toNatClampNeg (i + 1)))] : List Value).map (j_rv g)).reverse ++ .ref (ad 9) :: [])) rfl ?_
  refine j_lawV hC (as := [.int (xs (Int32.toNatClampNeg (i + 1)))]) (a := 9) (rest := []) r1 dl_340 (j := 89) (Nat.le_of_ble_eq_true rfl) (by decide +kernel) (j_has_in (c := 4) (o := 60) (by decide +kernel)) (Nat.le_of_ble_eq_true rfl) HP_x (show 1 = j_np 89 from by decide +kernel) (show (lg_sl _).length ≤ 2 from Nat.le_of_ble_eq_true rfl) (Nat.le_of_ble_eq_true rfl) (show 8 + (2 + 11) + 20000 ≤ 84000 from Nat.le_of_ble_eq_true rfl) (Nat.le_of_ble_eq_true rfl) hl.1 hH hS hc hs (fun H1 locs1 hH1 hS1 => ?_)
  show W p l e room_1 s m #[Value.ref b] below meth c H1 locs1 _ _ (lw_Z below #[Value.ref b] s) (F0 m 343 ls [iV w1])
  have hS := hS1
  refine lv_pop hx hb dl_343 rfl ?_
  refine lv_aload_n hx hb dl_344 rfl (lv_at hl 2 rfl) ?_
  refine lv_aload_n hx hb dl_345 rfl (lv_at hl 0 rfl) ?_
  refine lv_iload_n hx hb dl_346 rfl (lv_at hl 3 rfl) ?_
  refine lv_iconst (v := 1) hx hb dl_347 (by decide) ?_
  refine lv_iadd hx hb dl_348 ?_
  refine va_sld hx hb hX hbl hbA hS (i := (i + 1)) (hv 1 (by decide)) dl_349 ?_
  refine W.eq (g2 := F0 m 350 ls ((([.int (xs (Int32.toNatClampNeg (i + 1)))] : List Value).map (j_rv g)).reverse ++ .ref (ad 117) :: [])) rfl ?_
  refine j_lawV hC (as := [.int (xs (Int32.toNatClampNeg (i + 1)))]) (a := 117) (rest := []) r2 dl_350 (j := 264) (Nat.le_of_ble_eq_true rfl) (by decide +kernel) (j_has_in (c := 8) (o := 124) (by decide +kernel)) (Nat.le_of_ble_eq_true rfl) HP_m (show 1 = j_np 264 from by decide +kernel) (show (lg_sl _).length ≤ 2 from Nat.le_of_ble_eq_true rfl) (Nat.le_of_ble_eq_true rfl) (show 8 + (2 + 11) + 20000 ≤ 84000 from Nat.le_of_ble_eq_true rfl) (Nat.le_of_ble_eq_true rfl) hl.1 hH1 hS hc hs (fun H2 locs2 hH2 hS2 => ?_)
  show W p l e room_1 s m #[Value.ref b] below meth c H2 locs2 _ _ (lw_Z below #[Value.ref b] s) (F0 m 353 ls [iV w2])
  have hS := hS2
  refine lv_pop hx hb dl_353 rfl ?_
  refine lv_goto (tgt := 1225) hx hb dl_354 (by decide) ?_
  refine lv_iinc (v := i + Int32.ofInt 6) (lv' := [(3, .int (i + Int32.ofInt 6)), (0, .ref b), (1, .ref (ad 9)), (2, .ref (ad 117))]) hx hb dl_1225 hl (k := 3) rfl rfl (by decide) rfl (fun ls hl => ?_)
  refine lv_goto (tgt := 18) hx hb dl_1228 (by decide) ?_
  exact K _ _ _ _ I2 hH2 hS hl
set_option maxHeartbeats 4000000 in
theorem law_c7 {p : Program} {l : Launch} {e : Env} {s : State} {m : MethodId} {below : List Frame} {meth : Method} {c : Code} {b L : Nat} {xs : Nat → Int32} {g : Nat → Value} {ad : Nat → Nat} {D : va_G} {cA : Nat → ClassId} {H : Heap} {locs : List Loc} {cells slots : Nat} {ls : Array Slot} {i : Int32} {σ : jM} (C0 : lw_At p s m meth c b L xs) (hC : j_Cx g ad s.heap.size D cA vwCl j_TW j_zs j_ks "HundredWordsLaw" "law" code 4 p s m #[.ref b] meth c) (hv : ∀ d : Nat, d ≤ 5 → vp_in (i + Int32.ofNat d) L) (I : Inv σ) (hH : j_H g ad s.heap.size D cA vwCl s H (HP σ)) (hS : va_S (j_A s.heap.size) s.heap H locs) (hc : cells ≤ 600000) (hs : slots ≤ 7302250) (hl : lv_has ls 4 [(0, .ref b), (1, .ref (ad 9)), (2, .ref (ad 117)), (3, .int i)]) (K : ∀ (H2 : Heap) (locs2 : List Loc) (ls2 : Array Slot) (ρ : jM), Inv ρ → j_H g ad s.heap.size D cA vwCl s H2 (HP ρ) → va_S (j_A s.heap.size) s.heap H2 locs2 → lv_has ls2 4 [(3, .int (i + Int32.ofInt 6)), (0, .ref b), (1, .ref (ad 9)), (2, .ref (ad 117))] → W p l e room_1 s m #[Value.ref b] below meth c H2 locs2 cells slots (lw_Z below #[Value.ref b] s) (F0 m 18 ls2 [])) : W p l e room_1 s m #[Value.ref b] below meth c H locs cells slots (lw_Z below #[Value.ref b] s) (F0 m 413 ls []) := by
  obtain ⟨hx, hb, hr, hml, hown, hts, hX, hbl, hlocks, hgv⟩ := id C0
  have hbA : ¬ j_A s.heap.size b := Nat.not_le.mpr hbl
  refine lv_aload_n hx hb dl_413 rfl (lv_at hl 1 rfl) ?_
  refine lv_aload_n hx hb dl_414 rfl (lv_at hl 0 rfl) ?_
  refine lv_iload_n hx hb dl_415 rfl (lv_at hl 3 rfl) ?_
  refine lv_iconst (v := 1) hx hb dl_416 (by decide) ?_
  refine lv_iadd hx hb dl_417 ?_
  refine va_sld hx hb hX hbl hbA hS (i := (i + 1)) (hv 1 (by decide)) dl_418 ?_
  refine lv_if_eq (tgt := 426) hx hb dl_419 (by decide) (fun hq0 => ?_) (fun hq0 => ?_)
  · skip
    refine lv_iconst (v := 0) hx hb dl_426 (by decide) ?_
    refine lv_aload_n hx hb dl_427 rfl (lv_at hl 0 rfl) ?_
    refine lv_iload_n hx hb dl_428 rfl (lv_at hl 3 rfl) ?_
    refine lv_iconst (v := 2) hx hb dl_429 (by decide) ?_
    refine lv_iadd hx hb dl_430 ?_
    refine va_sld hx hb hX hbl hbA hS (i := (i + 2)) (hv 2 (by decide)) dl_431 ?_
    obtain ⟨n1, n2, w1, w2, τ, ρ, r1, r2, I2⟩ := pm_sign_0 I ((xs (Int32.toNatClampNeg (i + 2))))
    refine W.eq (g2 := F0 m 432 ls ((([.int 0, .int (xs (Int32.toNatClampNeg (i + 2)))] : List Value).map (j_rv g)).reverse ++ .ref (ad 9) :: [])) rfl ?_
    refine j_lawV hC (as := [.int 0, .int (xs (Int32.toNatClampNeg (i + 2)))]) (a := 9) (rest := []) r1 dl_432 (j := 94) (Nat.le_of_ble_eq_true rfl) (by decide +kernel) (j_has_in (c := 4) (o := 80) (by decide +kernel)) (Nat.le_of_ble_eq_true rfl) HP_x (show 2 = j_np 94 from by decide +kernel) (show (lg_sl _).length ≤ 4 from Nat.le_of_ble_eq_true rfl) (Nat.le_of_ble_eq_true rfl) (show 8 + (4 + 11) + 20000 ≤ 84000 from Nat.le_of_ble_eq_true rfl) (Nat.le_of_ble_eq_true rfl) hl.1 hH hS hc hs (fun H1 locs1 hH1 hS1 => ?_)
    show W p l e room_1 s m #[Value.ref b] below meth c H1 locs1 _ _ (lw_Z below #[Value.ref b] s) (F0 m 435 ls [iV w1])
    have hS := hS1
    refine lv_pop hx hb dl_435 rfl ?_
    refine lv_aload_n hx hb dl_436 rfl (lv_at hl 2 rfl) ?_
    refine lv_aload_n hx hb dl_437 rfl (lv_at hl 0 rfl) ?_
    refine lv_iload_n hx hb dl_438 rfl (lv_at hl 3 rfl) ?_
    refine lv_iconst (v := 1) hx hb dl_439 (by decide) ?_
    refine lv_iadd hx hb dl_440 ?_
    refine va_sld hx hb hX hbl hbA hS (i := (i + 1)) (hv 1 (by decide)) dl_441 ?_
    refine lv_if_eq (tgt := 449) hx hb dl_442 (by decide) (fun hq1 => ?_) (fun hq1 => ?_)
    · skip
      refine lv_iconst (v := 0) hx hb dl_449 (by decide) ?_
      refine lv_aload_n hx hb dl_450 rfl (lv_at hl 0 rfl) ?_
      refine lv_iload_n hx hb dl_451 rfl (lv_at hl 3 rfl) ?_
      refine lv_iconst (v := 2) hx hb dl_452 (by decide) ?_
      refine lv_iadd hx hb dl_453 ?_
      refine va_sld hx hb hX hbl hbA hS (i := (i + 2)) (hv 2 (by decide)) dl_454 ?_
      refine W.eq (g2 := F0 m 455 ls ((([.int 0, .int (xs (Int32.toNatClampNeg (i + 2)))] : List Value).map (j_rv g)).reverse ++ .ref (ad 117) :: [])) rfl ?_
      refine j_lawV hC (as := [.int 0, .int (xs (Int32.toNatClampNeg (i + 2)))]) (a := 117) (rest := []) r2 dl_455 (j := 268) (Nat.le_of_ble_eq_true rfl) (by decide +kernel) (j_has_in (c := 8) (o := 142) (by decide +kernel)) (Nat.le_of_ble_eq_true rfl) HP_m (show 2 = j_np 268 from by decide +kernel) (show (lg_sl _).length ≤ 4 from Nat.le_of_ble_eq_true rfl) (Nat.le_of_ble_eq_true rfl) (show 8 + (4 + 11) + 20000 ≤ 84000 from Nat.le_of_ble_eq_true rfl) (Nat.le_of_ble_eq_true rfl) hl.1 hH1 hS hc hs (fun H2 locs2 hH2 hS2 => ?_)
      show W p l e room_1 s m #[Value.ref b] below meth c H2 locs2 _ _ (lw_Z below #[Value.ref b] s) (F0 m 458 ls [iV w2])
      have hS := hS2
      refine lv_pop hx hb dl_458 rfl ?_
      refine lv_goto (tgt := 1225) hx hb dl_459 (by decide) ?_
      refine lv_iinc (v := i + Int32.ofInt 6) (lv' := [(3, .int (i + Int32.ofInt 6)), (0, .ref b), (1, .ref (ad 9)), (2, .ref (ad 117))]) hx hb dl_1225 hl (k := 3) rfl rfl (by decide) rfl (fun ls hl => ?_)
      refine lv_goto (tgt := 18) hx hb dl_1228 (by decide) ?_
      exact K _ _ _ _ I2 hH2 hS hl
    · exact absurd hq0 hq1
  · skip
    refine lv_iconst (v := 1) hx hb dl_422 (by decide) ?_
    refine lv_goto (tgt := 427) hx hb dl_423 (by decide) ?_
    refine lv_aload_n hx hb dl_427 rfl (lv_at hl 0 rfl) ?_
    refine lv_iload_n hx hb dl_428 rfl (lv_at hl 3 rfl) ?_
    refine lv_iconst (v := 2) hx hb dl_429 (by decide) ?_
    refine lv_iadd hx hb dl_430 ?_
    refine va_sld hx hb hX hbl hbA hS (i := (i + 2)) (hv 2 (by decide)) dl_431 ?_
    obtain ⟨n1, n2, w1, w2, τ, ρ, r1, r2, I2⟩ := pm_sign_1 I ((xs (Int32.toNatClampNeg (i + 2))))
    refine W.eq (g2 := F0 m 432 ls ((([.int 1, .int (xs (Int32.toNatClampNeg (i + 2)))] : List Value).map (j_rv g)).reverse ++ .ref (ad 9) :: [])) rfl ?_
    refine j_lawV hC (as := [.int 1, .int (xs (Int32.toNatClampNeg (i + 2)))]) (a := 9) (rest := []) r1 dl_432 (j := 94) (Nat.le_of_ble_eq_true rfl) (by decide +kernel) (j_has_in (c := 4) (o := 80) (by decide +kernel)) (Nat.le_of_ble_eq_true rfl) HP_x (show 2 = j_np 94 from by decide +kernel) (show (lg_sl _).length ≤ 4 from Nat.le_of_ble_eq_true rfl) (Nat.le_of_ble_eq_true rfl) (show 8 + (4 + 11) + 20000 ≤ 84000 from Nat.le_of_ble_eq_true rfl) (Nat.le_of_ble_eq_true rfl) hl.1 hH hS hc hs (fun H1 locs1 hH1 hS1 => ?_)
    show W p l e room_1 s m #[Value.ref b] below meth c H1 locs1 _ _ (lw_Z below #[Value.ref b] s) (F0 m 435 ls [iV w1])
    have hS := hS1
    refine lv_pop hx hb dl_435 rfl ?_
    refine lv_aload_n hx hb dl_436 rfl (lv_at hl 2 rfl) ?_
    refine lv_aload_n hx hb dl_437 rfl (lv_at hl 0 rfl) ?_
    refine lv_iload_n hx hb dl_438 rfl (lv_at hl 3 rfl) ?_
    refine lv_iconst (v := 1) hx hb dl_439 (by decide) ?_
    refine lv_iadd hx hb dl_440 ?_
    refine va_sld hx hb hX hbl hbA hS (i := (i + 1)) (hv 1 (by decide)) dl_441 ?_
    refine lv_if_eq (tgt := 449) hx hb dl_442 (by decide) (fun hq1 => ?_) (fun hq1 => ?_)
    · exact absurd hq1 hq0
    · skip
      refine lv_iconst (v := 1) hx hb dl_445 (by decide) ?_
      refine lv_goto (tgt := 450) hx hb dl_446 (by decide) ?_
      refine lv_aload_n hx hb dl_450 rfl (lv_at hl 0 rfl) ?_
      refine lv_iload_n hx hb dl_451 rfl (lv_at hl 3 rfl) ?_
      refine lv_iconst (v := 2) hx hb dl_452 (by decide) ?_
      refine lv_iadd hx hb dl_453 ?_
      refine va_sld hx hb hX hbl hbA hS (i := (i + 2)) (hv 2 (by decide)) dl_454 ?_
      refine W.eq (g2 := F0 m 455 ls ((([.int 1, .int (xs (Int32.toNatClampNeg (i + 2)))] : List Value).map (j_rv g)).reverse ++ .ref (ad 117) :: [])) rfl ?_
      refine j_lawV hC (as := [.int 1, .int (xs (Int32.toNatClampNeg (i + 2)))]) (a := 117) (rest := []) r2 dl_455 (j := 268) (Nat.le_of_ble_eq_true rfl) (by decide +kernel) (j_has_in (c := 8) (o := 142) (by decide +kernel)) (Nat.le_of_ble_eq_true rfl) HP_m (show 2 = j_np 268 from by decide +kernel) (show (lg_sl _).length ≤ 4 from Nat.le_of_ble_eq_true rfl) (Nat.le_of_ble_eq_true rfl) (show 8 + (4 + 11) + 20000 ≤ 84000 from Nat.le_of_ble_eq_true rfl) (Nat.le_of_ble_eq_true rfl) hl.1 hH1 hS hc hs (fun H2 locs2 hH2 hS2 => ?_)
      show W p l e room_1 s m #[Value.ref b] below meth c H2 locs2 _ _ (lw_Z below #[Value.ref b] s) (F0 m 458 ls [iV w2])
      have hS := hS2
      refine lv_pop hx hb dl_458 rfl ?_
      refine lv_goto (tgt := 1225) hx hb dl_459 (by decide) ?_
      refine lv_iinc (v := i + Int32.ofInt 6) (lv' := [(3, .int (i + Int32.ofInt 6)), (0, .ref b), (1, .ref (ad 9)), (2, .ref (ad 117))]) hx hb dl_1225 hl (k := 3) rfl rfl (by decide) rfl (fun ls hl => ?_)
      refine lv_goto (tgt := 18) hx hb dl_1228 (by decide) ?_
      exact K _ _ _ _ I2 hH2 hS hl
set_option maxHeartbeats 4000000 in
theorem law_c10 {p : Program} {l : Launch} {e : Env} {s : State} {m : MethodId} {below : List Frame} {meth : Method} {c : Code} {b L : Nat} {xs : Nat → Int32} {g : Nat → Value} {ad : Nat → Nat} {D : va_G} {cA : Nat → ClassId} {H : Heap} {locs : List Loc} {cells slots : Nat} {ls : Array Slot} {i : Int32} {σ : jM} (C0 : lw_At p s m meth c b L xs) (hC : j_Cx g ad s.heap.size D cA vwCl j_TW j_zs j_ks "HundredWordsLaw" "law" code 4 p s m #[.ref b] meth c) (hv : ∀ d : Nat, d ≤ 5 → vp_in (i + Int32.ofNat d) L) (I : Inv σ) (hH : j_H g ad s.heap.size D cA vwCl s H (HP σ)) (hS : va_S (j_A s.heap.size) s.heap H locs) (hc : cells ≤ 600000) (hs : slots ≤ 7302250) (hl : lv_has ls 4 [(0, .ref b), (1, .ref (ad 9)), (2, .ref (ad 117)), (3, .int i)]) (K : ∀ (H2 : Heap) (locs2 : List Loc) (ls2 : Array Slot) (ρ : jM), Inv ρ → j_H g ad s.heap.size D cA vwCl s H2 (HP ρ) → va_S (j_A s.heap.size) s.heap H2 locs2 → lv_has ls2 4 [(3, .int (i + Int32.ofInt 6)), (0, .ref b), (1, .ref (ad 9)), (2, .ref (ad 117))] → W p l e room_1 s m #[Value.ref b] below meth c H2 locs2 cells slots (lw_Z below #[Value.ref b] s) (F0 m 18 ls2 [])) : W p l e room_1 s m #[Value.ref b] below meth c H locs cells slots (lw_Z below #[Value.ref b] s) (F0 m 560 ls []) := by
  obtain ⟨hx, hb, hr, hml, hown, hts, hX, hbl, hlocks, hgv⟩ := id C0
  have hbA : ¬ j_A s.heap.size b := Nat.not_le.mpr hbl
  refine lv_aload_n hx hb dl_560 rfl (lv_at hl 1 rfl) ?_
  refine lv_aload_n hx hb dl_561 rfl (lv_at hl 0 rfl) ?_
  refine lv_iload_n hx hb dl_562 rfl (lv_at hl 3 rfl) ?_
  refine lv_iconst (v := 1) hx hb dl_563 (by decide) ?_
  refine lv_iadd hx hb dl_564 ?_
  refine va_sld hx hb hX hbl hbA hS (i := (i + 1)) (hv 1 (by decide)) dl_565 ?_
  refine lv_aload_n hx hb dl_566 rfl (lv_at hl 0 rfl) ?_
  refine lv_iload_n hx hb dl_567 rfl (lv_at hl 3 rfl) ?_
  refine lv_iconst (v := 2) hx hb dl_568 (by decide) ?_
  refine lv_iadd hx hb dl_569 ?_
  refine va_sld hx hb hX hbl hbA hS (i := (i + 2)) (hv 2 (by decide)) dl_570 ?_
  obtain ⟨n1, n2, w1, w2, τ, ρ, r1, r2, I2⟩ := pm_borne I ((xs (Int32.toNatClampNeg (i + 1)))) ((xs (Int32.toNatClampNeg (i + 2))))
  refine W.eq (g2 := F0 m 571 ls ((([.int (xs (Int32.toNatClampNeg (i + 1))), .int (xs (Int32.toNatClampNeg (i + 2)))] : List Value).map (j_rv g)).reverse ++ .ref (ad 9) :: [])) rfl ?_
  refine j_lawV hC (as := [.int (xs (Int32.toNatClampNeg (i + 1))), .int (xs (Int32.toNatClampNeg (i + 2)))]) (a := 9) (rest := []) r1 dl_571 (j := 102) (Nat.le_of_ble_eq_true rfl) (by decide +kernel) (j_has_in (c := 4) (o := 113) (by decide +kernel)) (Nat.le_of_ble_eq_true rfl) HP_x (show 2 = j_np 102 from by decide +kernel) (show (lg_sl _).length ≤ 3 from Nat.le_of_ble_eq_true rfl) (Nat.le_of_ble_eq_true rfl) (show 8 + (3 + 11) + 20000 ≤ 84000 from Nat.le_of_ble_eq_true rfl) (Nat.le_of_ble_eq_true rfl) hl.1 hH hS hc hs (fun H1 locs1 hH1 hS1 => ?_)
  show W p l e room_1 s m #[Value.ref b] below meth c H1 locs1 _ _ (lw_Z below #[Value.ref b] s) (F0 m 574 ls [iV w1])
  have hS := hS1
  refine lv_pop hx hb dl_574 rfl ?_
  refine lv_aload_n hx hb dl_575 rfl (lv_at hl 2 rfl) ?_
  refine lv_aload_n hx hb dl_576 rfl (lv_at hl 0 rfl) ?_
  refine lv_iload_n hx hb dl_577 rfl (lv_at hl 3 rfl) ?_
  refine lv_iconst (v := 1) hx hb dl_578 (by decide) ?_
  refine lv_iadd hx hb dl_579 ?_
  refine va_sld hx hb hX hbl hbA hS (i := (i + 1)) (hv 1 (by decide)) dl_580 ?_
  refine lv_aload_n hx hb dl_581 rfl (lv_at hl 0 rfl) ?_
  refine lv_iload_n hx hb dl_582 rfl (lv_at hl 3 rfl) ?_
  refine lv_iconst (v := 2) hx hb dl_583 (by decide) ?_
  refine lv_iadd hx hb dl_584 ?_
  refine va_sld hx hb hX hbl hbA hS (i := (i + 2)) (hv 2 (by decide)) dl_585 ?_
  refine W.eq (g2 := F0 m 586 ls ((([.int (xs (Int32.toNatClampNeg (i + 1))), .int (xs (Int32.toNatClampNeg (i + 2)))] : List Value).map (j_rv g)).reverse ++ .ref (ad 117) :: [])) rfl ?_
  refine j_lawV hC (as := [.int (xs (Int32.toNatClampNeg (i + 1))), .int (xs (Int32.toNatClampNeg (i + 2)))]) (a := 117) (rest := []) r2 dl_586 (j := 278) (Nat.le_of_ble_eq_true rfl) (by decide +kernel) (j_has_in (c := 8) (o := 180) (by decide +kernel)) (Nat.le_of_ble_eq_true rfl) HP_m (show 2 = j_np 278 from by decide +kernel) (show (lg_sl _).length ≤ 6 from Nat.le_of_ble_eq_true rfl) (Nat.le_of_ble_eq_true rfl) (show 8 + (6 + 11) + 20000 ≤ 84000 from Nat.le_of_ble_eq_true rfl) (Nat.le_of_ble_eq_true rfl) hl.1 hH1 hS hc hs (fun H2 locs2 hH2 hS2 => ?_)
  show W p l e room_1 s m #[Value.ref b] below meth c H2 locs2 _ _ (lw_Z below #[Value.ref b] s) (F0 m 589 ls [iV w2])
  have hS := hS2
  refine lv_pop hx hb dl_589 rfl ?_
  refine lv_goto (tgt := 1225) hx hb dl_590 (by decide) ?_
  refine lv_iinc (v := i + Int32.ofInt 6) (lv' := [(3, .int (i + Int32.ofInt 6)), (0, .ref b), (1, .ref (ad 9)), (2, .ref (ad 117))]) hx hb dl_1225 hl (k := 3) rfl rfl (by decide) rfl (fun ls hl => ?_)
  refine lv_goto (tgt := 18) hx hb dl_1228 (by decide) ?_
  exact K _ _ _ _ I2 hH2 hS hl
set_option maxHeartbeats 4000000 in
theorem law_c13 {p : Program} {l : Launch} {e : Env} {s : State} {m : MethodId} {below : List Frame} {meth : Method} {c : Code} {b L : Nat} {xs : Nat → Int32} {g : Nat → Value} {ad : Nat → Nat} {D : va_G} {cA : Nat → ClassId} {H : Heap} {locs : List Loc} {cells slots : Nat} {ls : Array Slot} {i : Int32} {σ : jM} (C0 : lw_At p s m meth c b L xs) (hC : j_Cx g ad s.heap.size D cA vwCl j_TW j_zs j_ks "HundredWordsLaw" "law" code 4 p s m #[.ref b] meth c) (hv : ∀ d : Nat, d ≤ 5 → vp_in (i + Int32.ofNat d) L) (I : Inv σ) (hH : j_H g ad s.heap.size D cA vwCl s H (HP σ)) (hS : va_S (j_A s.heap.size) s.heap H locs) (hc : cells ≤ 600000) (hs : slots ≤ 7302250) (hl : lv_has ls 4 [(0, .ref b), (1, .ref (ad 9)), (2, .ref (ad 117)), (3, .int i)]) (K : ∀ (H2 : Heap) (locs2 : List Loc) (ls2 : Array Slot) (ρ : jM), Inv ρ → j_H g ad s.heap.size D cA vwCl s H2 (HP ρ) → va_S (j_A s.heap.size) s.heap H2 locs2 → lv_has ls2 4 [(3, .int (i + Int32.ofInt 6)), (0, .ref b), (1, .ref (ad 9)), (2, .ref (ad 117))] → W p l e room_1 s m #[Value.ref b] below meth c H2 locs2 cells slots (lw_Z below #[Value.ref b] s) (F0 m 18 ls2 [])) : W p l e room_1 s m #[Value.ref b] below meth c H locs cells slots (lw_Z below #[Value.ref b] s) (F0 m 649 ls []) := by
  obtain ⟨hx, hb, hr, hml, hown, hts, hX, hbl, hlocks, hgv⟩ := id C0
  have hbA : ¬ j_A s.heap.size b := Nat.not_le.mpr hbl
  refine lv_aload_n hx hb dl_649 rfl (lv_at hl 1 rfl) ?_
  refine lv_aload_n hx hb dl_650 rfl (lv_at hl 0 rfl) ?_
  refine lv_iload_n hx hb dl_651 rfl (lv_at hl 3 rfl) ?_
  refine lv_iconst (v := 1) hx hb dl_652 (by decide) ?_
  refine lv_iadd hx hb dl_653 ?_
  refine va_sld hx hb hX hbl hbA hS (i := (i + 1)) (hv 1 (by decide)) dl_654 ?_
  refine lv_aload_n hx hb dl_655 rfl (lv_at hl 0 rfl) ?_
  refine lv_iload_n hx hb dl_656 rfl (lv_at hl 3 rfl) ?_
  refine lv_iconst (v := 2) hx hb dl_657 (by decide) ?_
  refine lv_iadd hx hb dl_658 ?_
  refine va_sld hx hb hX hbl hbA hS (i := (i + 2)) (hv 2 (by decide)) dl_659 ?_
  obtain ⟨n1, n2, w1, w2, τ, ρ, r1, r2, I2⟩ := pm_put I ((xs (Int32.toNatClampNeg (i + 1)))) ((xs (Int32.toNatClampNeg (i + 2))))
  refine W.eq (g2 := F0 m 660 ls ((([.int (xs (Int32.toNatClampNeg (i + 1))), .int (xs (Int32.toNatClampNeg (i + 2)))] : List Value).map (j_rv g)).reverse ++ .ref (ad 9) :: [])) rfl ?_
  refine j_lawV hC (as := [.int (xs (Int32.toNatClampNeg (i + 1))), .int (xs (Int32.toNatClampNeg (i + 2)))]) (a := 9) (rest := []) r1 dl_660 (j := 114) (Nat.le_of_ble_eq_true rfl) (by decide +kernel) (j_has_in (c := 4) (o := 161) (by decide +kernel)) (Nat.le_of_ble_eq_true rfl) HP_x (show 2 = j_np 114 from by decide +kernel) (show (lg_sl _).length ≤ 3 from Nat.le_of_ble_eq_true rfl) (Nat.le_of_ble_eq_true rfl) (show 8 + (3 + 11) + 20000 ≤ 84000 from Nat.le_of_ble_eq_true rfl) (Nat.le_of_ble_eq_true rfl) hl.1 hH hS hc hs (fun H1 locs1 hH1 hS1 => ?_)
  show W p l e room_1 s m #[Value.ref b] below meth c H1 locs1 _ _ (lw_Z below #[Value.ref b] s) (F0 m 663 ls [iV w1])
  have hS := hS1
  refine lv_pop hx hb dl_663 rfl ?_
  refine lv_aload_n hx hb dl_664 rfl (lv_at hl 2 rfl) ?_
  refine lv_aload_n hx hb dl_665 rfl (lv_at hl 0 rfl) ?_
  refine lv_iload_n hx hb dl_666 rfl (lv_at hl 3 rfl) ?_
  refine lv_iconst (v := 1) hx hb dl_667 (by decide) ?_
  refine lv_iadd hx hb dl_668 ?_
  refine va_sld hx hb hX hbl hbA hS (i := (i + 1)) (hv 1 (by decide)) dl_669 ?_
  refine lv_aload_n hx hb dl_670 rfl (lv_at hl 0 rfl) ?_
  refine lv_iload_n hx hb dl_671 rfl (lv_at hl 3 rfl) ?_
  refine lv_iconst (v := 2) hx hb dl_672 (by decide) ?_
  refine lv_iadd hx hb dl_673 ?_
  refine va_sld hx hb hX hbl hbA hS (i := (i + 2)) (hv 2 (by decide)) dl_674 ?_
  refine W.eq (g2 := F0 m 675 ls ((([.int (xs (Int32.toNatClampNeg (i + 1))), .int (xs (Int32.toNatClampNeg (i + 2)))] : List Value).map (j_rv g)).reverse ++ .ref (ad 117) :: [])) rfl ?_
  refine j_lawV hC (as := [.int (xs (Int32.toNatClampNeg (i + 1))), .int (xs (Int32.toNatClampNeg (i + 2)))]) (a := 117) (rest := []) r2 dl_675 (j := 286) (Nat.le_of_ble_eq_true rfl) (by decide +kernel) (j_has_in (c := 8) (o := 212) (by decide +kernel)) (Nat.le_of_ble_eq_true rfl) HP_m (show 2 = j_np 286 from by decide +kernel) (show (lg_sl _).length ≤ 3 from Nat.le_of_ble_eq_true rfl) (Nat.le_of_ble_eq_true rfl) (show 8 + (3 + 11) + 20000 ≤ 84000 from Nat.le_of_ble_eq_true rfl) (Nat.le_of_ble_eq_true rfl) hl.1 hH1 hS hc hs (fun H2 locs2 hH2 hS2 => ?_)
  show W p l e room_1 s m #[Value.ref b] below meth c H2 locs2 _ _ (lw_Z below #[Value.ref b] s) (F0 m 678 ls [iV w2])
  have hS := hS2
  refine lv_pop hx hb dl_678 rfl ?_
  refine lv_goto (tgt := 1225) hx hb dl_679 (by decide) ?_
  refine lv_iinc (v := i + Int32.ofInt 6) (lv' := [(3, .int (i + Int32.ofInt 6)), (0, .ref b), (1, .ref (ad 9)), (2, .ref (ad 117))]) hx hb dl_1225 hl (k := 3) rfl rfl (by decide) rfl (fun ls hl => ?_)
  refine lv_goto (tgt := 18) hx hb dl_1228 (by decide) ?_
  exact K _ _ _ _ I2 hH2 hS hl
set_option maxHeartbeats 4000000 in
theorem law_c16 {p : Program} {l : Launch} {e : Env} {s : State} {m : MethodId} {below : List Frame} {meth : Method} {c : Code} {b L : Nat} {xs : Nat → Int32} {g : Nat → Value} {ad : Nat → Nat} {D : va_G} {cA : Nat → ClassId} {H : Heap} {locs : List Loc} {cells slots : Nat} {ls : Array Slot} {i : Int32} {σ : jM} (C0 : lw_At p s m meth c b L xs) (hC : j_Cx g ad s.heap.size D cA vwCl j_TW j_zs j_ks "HundredWordsLaw" "law" code 4 p s m #[.ref b] meth c) (hv : ∀ d : Nat, d ≤ 5 → vp_in (i + Int32.ofNat d) L) (I : Inv σ) (hH : j_H g ad s.heap.size D cA vwCl s H (HP σ)) (hS : va_S (j_A s.heap.size) s.heap H locs) (hc : cells ≤ 600000) (hs : slots ≤ 7302250) (hl : lv_has ls 4 [(0, .ref b), (1, .ref (ad 9)), (2, .ref (ad 117)), (3, .int i)]) (K : ∀ (H2 : Heap) (locs2 : List Loc) (ls2 : Array Slot) (ρ : jM), Inv ρ → j_H g ad s.heap.size D cA vwCl s H2 (HP ρ) → va_S (j_A s.heap.size) s.heap H2 locs2 → lv_has ls2 4 [(3, .int (i + Int32.ofInt 6)), (0, .ref b), (1, .ref (ad 9)), (2, .ref (ad 117))] → W p l e room_1 s m #[Value.ref b] below meth c H2 locs2 cells slots (lw_Z below #[Value.ref b] s) (F0 m 18 ls2 [])) : W p l e room_1 s m #[Value.ref b] below meth c H locs cells slots (lw_Z below #[Value.ref b] s) (F0 m 738 ls []) := by
  obtain ⟨hx, hb, hr, hml, hown, hts, hX, hbl, hlocks, hgv⟩ := id C0
  have hbA : ¬ j_A s.heap.size b := Nat.not_le.mpr hbl
  refine lv_aload_n hx hb dl_738 rfl (lv_at hl 1 rfl) ?_
  obtain ⟨n1, n2, w1, w2, τ, ρ, r1, r2, I2⟩ := pm_undo I 
  refine W.eq (g2 := F0 m 739 ls ((([] : List Value).map (j_rv g)).reverse ++ .ref (ad 9) :: [])) rfl ?_
  refine j_lawV hC (as := []) (a := 9) (rest := []) r1 dl_739 (j := 120) (Nat.le_of_ble_eq_true rfl) (by decide +kernel) (j_has_in (c := 4) (o := 185) (by decide +kernel)) (Nat.le_of_ble_eq_true rfl) HP_x (show 0 = j_np 120 from by decide +kernel) (show (lg_sl _).length ≤ 1 from Nat.le_of_ble_eq_true rfl) (Nat.le_of_ble_eq_true rfl) (show 8 + (1 + 11) + 20000 ≤ 84000 from Nat.le_of_ble_eq_true rfl) (Nat.le_of_ble_eq_true rfl) hl.1 hH hS hc hs (fun H1 locs1 hH1 hS1 => ?_)
  show W p l e room_1 s m #[Value.ref b] below meth c H1 locs1 _ _ (lw_Z below #[Value.ref b] s) (F0 m 742 ls [iV w1])
  have hS := hS1
  refine lv_pop hx hb dl_742 rfl ?_
  refine lv_aload_n hx hb dl_743 rfl (lv_at hl 2 rfl) ?_
  refine W.eq (g2 := F0 m 744 ls ((([] : List Value).map (j_rv g)).reverse ++ .ref (ad 117) :: [])) rfl ?_
  refine j_lawV hC (as := []) (a := 117) (rest := []) r2 dl_744 (j := 285) (Nat.le_of_ble_eq_true rfl) (by decide +kernel) (j_has_in (c := 8) (o := 208) (by decide +kernel)) (Nat.le_of_ble_eq_true rfl) HP_m (show 0 = j_np 285 from by decide +kernel) (show (lg_sl _).length ≤ 2 from Nat.le_of_ble_eq_true rfl) (Nat.le_of_ble_eq_true rfl) (show 8 + (2 + 11) + 20000 ≤ 84000 from Nat.le_of_ble_eq_true rfl) (Nat.le_of_ble_eq_true rfl) hl.1 hH1 hS hc hs (fun H2 locs2 hH2 hS2 => ?_)
  show W p l e room_1 s m #[Value.ref b] below meth c H2 locs2 _ _ (lw_Z below #[Value.ref b] s) (F0 m 747 ls [iV w2])
  have hS := hS2
  refine lv_pop hx hb dl_747 rfl ?_
  refine lv_goto (tgt := 1225) hx hb dl_748 (by decide) ?_
  refine lv_iinc (v := i + Int32.ofInt 6) (lv' := [(3, .int (i + Int32.ofInt 6)), (0, .ref b), (1, .ref (ad 9)), (2, .ref (ad 117))]) hx hb dl_1225 hl (k := 3) rfl rfl (by decide) rfl (fun ls hl => ?_)
  refine lv_goto (tgt := 18) hx hb dl_1228 (by decide) ?_
  exact K _ _ _ _ I2 hH2 hS hl
set_option maxHeartbeats 4000000 in
theorem law_c19 {p : Program} {l : Launch} {e : Env} {s : State} {m : MethodId} {below : List Frame} {meth : Method} {c : Code} {b L : Nat} {xs : Nat → Int32} {g : Nat → Value} {ad : Nat → Nat} {D : va_G} {cA : Nat → ClassId} {H : Heap} {locs : List Loc} {cells slots : Nat} {ls : Array Slot} {i : Int32} {σ : jM} (C0 : lw_At p s m meth c b L xs) (hC : j_Cx g ad s.heap.size D cA vwCl j_TW j_zs j_ks "HundredWordsLaw" "law" code 4 p s m #[.ref b] meth c) (hv : ∀ d : Nat, d ≤ 5 → vp_in (i + Int32.ofNat d) L) (I : Inv σ) (hH : j_H g ad s.heap.size D cA vwCl s H (HP σ)) (hS : va_S (j_A s.heap.size) s.heap H locs) (hc : cells ≤ 600000) (hs : slots ≤ 7302250) (hl : lv_has ls 4 [(0, .ref b), (1, .ref (ad 9)), (2, .ref (ad 117)), (3, .int i)]) (K : ∀ (H2 : Heap) (locs2 : List Loc) (ls2 : Array Slot) (ρ : jM), Inv ρ → j_H g ad s.heap.size D cA vwCl s H2 (HP ρ) → va_S (j_A s.heap.size) s.heap H2 locs2 → lv_has ls2 4 [(3, .int (i + Int32.ofInt 6)), (0, .ref b), (1, .ref (ad 9)), (2, .ref (ad 117))] → W p l e room_1 s m #[Value.ref b] below meth c H2 locs2 cells slots (lw_Z below #[Value.ref b] s) (F0 m 18 ls2 [])) : W p l e room_1 s m #[Value.ref b] below meth c H locs cells slots (lw_Z below #[Value.ref b] s) (F0 m 823 ls []) := by
  obtain ⟨hx, hb, hr, hml, hown, hts, hX, hbl, hlocks, hgv⟩ := id C0
  have hbA : ¬ j_A s.heap.size b := Nat.not_le.mpr hbl
  refine lv_aload_n hx hb dl_823 rfl (lv_at hl 1 rfl) ?_
  obtain ⟨n1, n2, w1, w2, τ, ρ, r1, r2, I2⟩ := pm_shorts I 
  refine W.eq (g2 := F0 m 824 ls ((([] : List Value).map (j_rv g)).reverse ++ .ref (ad 9) :: [])) rfl ?_
  refine j_lawV hC (as := []) (a := 9) (rest := []) r1 dl_824 (j := 140) (Nat.le_of_ble_eq_true rfl) (by decide +kernel) (j_has_in (c := 5) (o := 28) (by decide +kernel)) (Nat.le_of_ble_eq_true rfl) HP_x (show 0 = j_np 140 from by decide +kernel) (show (lg_sl _).length ≤ 1 from Nat.le_of_ble_eq_true rfl) (Nat.le_of_ble_eq_true rfl) (show 8 + (1 + 11) + 20000 ≤ 84000 from Nat.le_of_ble_eq_true rfl) (Nat.le_of_ble_eq_true rfl) hl.1 hH hS hc hs (fun H1 locs1 hH1 hS1 => ?_)
  show W p l e room_1 s m #[Value.ref b] below meth c H1 locs1 _ _ (lw_Z below #[Value.ref b] s) (F0 m 827 ls [iV w1])
  have hS := hS1
  refine lv_pop hx hb dl_827 rfl ?_
  refine lv_aload_n hx hb dl_828 rfl (lv_at hl 2 rfl) ?_
  refine W.eq (g2 := F0 m 829 ls ((([] : List Value).map (j_rv g)).reverse ++ .ref (ad 117) :: [])) rfl ?_
  refine j_lawV hC (as := []) (a := 117) (rest := []) r2 dl_829 (j := 297) (Nat.le_of_ble_eq_true rfl) (by decide +kernel) (j_has_in (c := 9) (o := 19) (by decide +kernel)) (Nat.le_of_ble_eq_true rfl) HP_m (show 0 = j_np 297 from by decide +kernel) (show (lg_sl _).length ≤ 1 from Nat.le_of_ble_eq_true rfl) (Nat.le_of_ble_eq_true rfl) (show 8 + (1 + 11) + 20000 ≤ 84000 from Nat.le_of_ble_eq_true rfl) (Nat.le_of_ble_eq_true rfl) hl.1 hH1 hS hc hs (fun H2 locs2 hH2 hS2 => ?_)
  show W p l e room_1 s m #[Value.ref b] below meth c H2 locs2 _ _ (lw_Z below #[Value.ref b] s) (F0 m 832 ls [iV w2])
  have hS := hS2
  refine lv_pop hx hb dl_832 rfl ?_
  refine lv_goto (tgt := 1225) hx hb dl_833 (by decide) ?_
  refine lv_iinc (v := i + Int32.ofInt 6) (lv' := [(3, .int (i + Int32.ofInt 6)), (0, .ref b), (1, .ref (ad 9)), (2, .ref (ad 117))]) hx hb dl_1225 hl (k := 3) rfl rfl (by decide) rfl (fun ls hl => ?_)
  refine lv_goto (tgt := 18) hx hb dl_1228 (by decide) ?_
  exact K _ _ _ _ I2 hH2 hS hl
set_option maxHeartbeats 4000000 in
theorem law_c22 {p : Program} {l : Launch} {e : Env} {s : State} {m : MethodId} {below : List Frame} {meth : Method} {c : Code} {b L : Nat} {xs : Nat → Int32} {g : Nat → Value} {ad : Nat → Nat} {D : va_G} {cA : Nat → ClassId} {H : Heap} {locs : List Loc} {cells slots : Nat} {ls : Array Slot} {i : Int32} {σ : jM} (C0 : lw_At p s m meth c b L xs) (hC : j_Cx g ad s.heap.size D cA vwCl j_TW j_zs j_ks "HundredWordsLaw" "law" code 4 p s m #[.ref b] meth c) (hv : ∀ d : Nat, d ≤ 5 → vp_in (i + Int32.ofNat d) L) (I : Inv σ) (hH : j_H g ad s.heap.size D cA vwCl s H (HP σ)) (hS : va_S (j_A s.heap.size) s.heap H locs) (hc : cells ≤ 600000) (hs : slots ≤ 7302250) (hl : lv_has ls 4 [(0, .ref b), (1, .ref (ad 9)), (2, .ref (ad 117)), (3, .int i)]) (K : ∀ (H2 : Heap) (locs2 : List Loc) (ls2 : Array Slot) (ρ : jM), Inv ρ → j_H g ad s.heap.size D cA vwCl s H2 (HP ρ) → va_S (j_A s.heap.size) s.heap H2 locs2 → lv_has ls2 4 [(3, .int (i + Int32.ofInt 6)), (0, .ref b), (1, .ref (ad 9)), (2, .ref (ad 117))] → W p l e room_1 s m #[Value.ref b] below meth c H2 locs2 cells slots (lw_Z below #[Value.ref b] s) (F0 m 18 ls2 [])) : W p l e room_1 s m #[Value.ref b] below meth c H locs cells slots (lw_Z below #[Value.ref b] s) (F0 m 882 ls []) := by
  obtain ⟨hx, hb, hr, hml, hown, hts, hX, hbl, hlocks, hgv⟩ := id C0
  have hbA : ¬ j_A s.heap.size b := Nat.not_le.mpr hbl
  refine lv_aload_n hx hb dl_882 rfl (lv_at hl 1 rfl) ?_
  refine lv_aload_n hx hb dl_883 rfl (lv_at hl 0 rfl) ?_
  refine lv_iload_n hx hb dl_884 rfl (lv_at hl 3 rfl) ?_
  refine lv_iconst (v := 1) hx hb dl_885 (by decide) ?_
  refine lv_iadd hx hb dl_886 ?_
  refine va_sld hx hb hX hbl hbA hS (i := (i + 1)) (hv 1 (by decide)) dl_887 ?_
  refine lv_if_eq (tgt := 895) hx hb dl_888 (by decide) (fun hq0 => ?_) (fun hq0 => ?_)
  · skip
    refine lv_iconst (v := 0) hx hb dl_895 (by decide) ?_
    refine lv_aload_n hx hb dl_896 rfl (lv_at hl 0 rfl) ?_
    refine lv_iload_n hx hb dl_897 rfl (lv_at hl 3 rfl) ?_
    refine lv_iconst (v := 2) hx hb dl_898 (by decide) ?_
    refine lv_iadd hx hb dl_899 ?_
    refine va_sld hx hb hX hbl hbA hS (i := (i + 2)) (hv 2 (by decide)) dl_900 ?_
    obtain ⟨n1, n2, w1, w2, τ, ρ, r1, r2, I2⟩ := pm_hole_0 I ((xs (Int32.toNatClampNeg (i + 2))))
    refine W.eq (g2 := F0 m 901 ls ((([.int 0, .int (xs (Int32.toNatClampNeg (i + 2)))] : List Value).map (j_rv g)).reverse ++ .ref (ad 9) :: [])) rfl ?_
    refine j_lawV hC (as := [.int 0, .int (xs (Int32.toNatClampNeg (i + 2)))]) (a := 9) (rest := []) r1 dl_901 (j := 151) (Nat.le_of_ble_eq_true rfl) (by decide +kernel) (j_has_in (c := 5) (o := 76) (by decide +kernel)) (Nat.le_of_ble_eq_true rfl) HP_x (show 2 = j_np 151 from by decide +kernel) (show (lg_sl _).length ≤ 5 from Nat.le_of_ble_eq_true rfl) (Nat.le_of_ble_eq_true rfl) (show 8 + (5 + 11) + 20000 ≤ 84000 from Nat.le_of_ble_eq_true rfl) (Nat.le_of_ble_eq_true rfl) hl.1 hH hS hc hs (fun H1 locs1 hH1 hS1 => ?_)
    show W p l e room_1 s m #[Value.ref b] below meth c H1 locs1 _ _ (lw_Z below #[Value.ref b] s) (F0 m 904 ls [iV w1])
    have hS := hS1
    refine lv_pop hx hb dl_904 rfl ?_
    refine lv_aload_n hx hb dl_905 rfl (lv_at hl 2 rfl) ?_
    refine lv_aload_n hx hb dl_906 rfl (lv_at hl 0 rfl) ?_
    refine lv_iload_n hx hb dl_907 rfl (lv_at hl 3 rfl) ?_
    refine lv_iconst (v := 1) hx hb dl_908 (by decide) ?_
    refine lv_iadd hx hb dl_909 ?_
    refine va_sld hx hb hX hbl hbA hS (i := (i + 1)) (hv 1 (by decide)) dl_910 ?_
    refine lv_if_eq (tgt := 918) hx hb dl_911 (by decide) (fun hq1 => ?_) (fun hq1 => ?_)
    · skip
      refine lv_iconst (v := 0) hx hb dl_918 (by decide) ?_
      refine lv_aload_n hx hb dl_919 rfl (lv_at hl 0 rfl) ?_
      refine lv_iload_n hx hb dl_920 rfl (lv_at hl 3 rfl) ?_
      refine lv_iconst (v := 2) hx hb dl_921 (by decide) ?_
      refine lv_iadd hx hb dl_922 ?_
      refine va_sld hx hb hX hbl hbA hS (i := (i + 2)) (hv 2 (by decide)) dl_923 ?_
      refine W.eq (g2 := F0 m 924 ls ((([.int 0, .int (xs (Int32.toNatClampNeg (i + 2)))] : List Value).map (j_rv g)).reverse ++ .ref (ad 117) :: [])) rfl ?_
      refine j_lawV hC (as := [.int 0, .int (xs (Int32.toNatClampNeg (i + 2)))]) (a := 117) (rest := []) r2 dl_924 (j := 308) (Nat.le_of_ble_eq_true rfl) (by decide +kernel) (j_has_in (c := 9) (o := 62) (by decide +kernel)) (Nat.le_of_ble_eq_true rfl) HP_m (show 2 = j_np 308 from by decide +kernel) (show (lg_sl _).length ≤ 7 from Nat.le_of_ble_eq_true rfl) (Nat.le_of_ble_eq_true rfl) (show 8 + (7 + 11) + 20000 ≤ 84000 from Nat.le_of_ble_eq_true rfl) (Nat.le_of_ble_eq_true rfl) hl.1 hH1 hS hc hs (fun H2 locs2 hH2 hS2 => ?_)
      show W p l e room_1 s m #[Value.ref b] below meth c H2 locs2 _ _ (lw_Z below #[Value.ref b] s) (F0 m 927 ls [iV w2])
      have hS := hS2
      refine lv_pop hx hb dl_927 rfl ?_
      refine lv_goto (tgt := 1225) hx hb dl_928 (by decide) ?_
      refine lv_iinc (v := i + Int32.ofInt 6) (lv' := [(3, .int (i + Int32.ofInt 6)), (0, .ref b), (1, .ref (ad 9)), (2, .ref (ad 117))]) hx hb dl_1225 hl (k := 3) rfl rfl (by decide) rfl (fun ls hl => ?_)
      refine lv_goto (tgt := 18) hx hb dl_1228 (by decide) ?_
      exact K _ _ _ _ I2 hH2 hS hl
    · exact absurd hq0 hq1
  · skip
    refine lv_iconst (v := 1) hx hb dl_891 (by decide) ?_
    refine lv_goto (tgt := 896) hx hb dl_892 (by decide) ?_
    refine lv_aload_n hx hb dl_896 rfl (lv_at hl 0 rfl) ?_
    refine lv_iload_n hx hb dl_897 rfl (lv_at hl 3 rfl) ?_
    refine lv_iconst (v := 2) hx hb dl_898 (by decide) ?_
    refine lv_iadd hx hb dl_899 ?_
    refine va_sld hx hb hX hbl hbA hS (i := (i + 2)) (hv 2 (by decide)) dl_900 ?_
    obtain ⟨n1, n2, w1, w2, τ, ρ, r1, r2, I2⟩ := pm_hole_1 I ((xs (Int32.toNatClampNeg (i + 2))))
    refine W.eq (g2 := F0 m 901 ls ((([.int 1, .int (xs (Int32.toNatClampNeg (i + 2)))] : List Value).map (j_rv g)).reverse ++ .ref (ad 9) :: [])) rfl ?_
    refine j_lawV hC (as := [.int 1, .int (xs (Int32.toNatClampNeg (i + 2)))]) (a := 9) (rest := []) r1 dl_901 (j := 151) (Nat.le_of_ble_eq_true rfl) (by decide +kernel) (j_has_in (c := 5) (o := 76) (by decide +kernel)) (Nat.le_of_ble_eq_true rfl) HP_x (show 2 = j_np 151 from by decide +kernel) (show (lg_sl _).length ≤ 5 from Nat.le_of_ble_eq_true rfl) (Nat.le_of_ble_eq_true rfl) (show 8 + (5 + 11) + 20000 ≤ 84000 from Nat.le_of_ble_eq_true rfl) (Nat.le_of_ble_eq_true rfl) hl.1 hH hS hc hs (fun H1 locs1 hH1 hS1 => ?_)
    show W p l e room_1 s m #[Value.ref b] below meth c H1 locs1 _ _ (lw_Z below #[Value.ref b] s) (F0 m 904 ls [iV w1])
    have hS := hS1
    refine lv_pop hx hb dl_904 rfl ?_
    refine lv_aload_n hx hb dl_905 rfl (lv_at hl 2 rfl) ?_
    refine lv_aload_n hx hb dl_906 rfl (lv_at hl 0 rfl) ?_
    refine lv_iload_n hx hb dl_907 rfl (lv_at hl 3 rfl) ?_
    refine lv_iconst (v := 1) hx hb dl_908 (by decide) ?_
    refine lv_iadd hx hb dl_909 ?_
    refine va_sld hx hb hX hbl hbA hS (i := (i + 1)) (hv 1 (by decide)) dl_910 ?_
    refine lv_if_eq (tgt := 918) hx hb dl_911 (by decide) (fun hq1 => ?_) (fun hq1 => ?_)
    · exact absurd hq1 hq0
    · skip
      refine lv_iconst (v := 1) hx hb dl_914 (by decide) ?_
      refine lv_goto (tgt := 919) hx hb dl_915 (by decide) ?_
      refine lv_aload_n hx hb dl_919 rfl (lv_at hl 0 rfl) ?_
      refine lv_iload_n hx hb dl_920 rfl (lv_at hl 3 rfl) ?_
      refine lv_iconst (v := 2) hx hb dl_921 (by decide) ?_
      refine lv_iadd hx hb dl_922 ?_
      refine va_sld hx hb hX hbl hbA hS (i := (i + 2)) (hv 2 (by decide)) dl_923 ?_
      refine W.eq (g2 := F0 m 924 ls ((([.int 1, .int (xs (Int32.toNatClampNeg (i + 2)))] : List Value).map (j_rv g)).reverse ++ .ref (ad 117) :: [])) rfl ?_
      refine j_lawV hC (as := [.int 1, .int (xs (Int32.toNatClampNeg (i + 2)))]) (a := 117) (rest := []) r2 dl_924 (j := 308) (Nat.le_of_ble_eq_true rfl) (by decide +kernel) (j_has_in (c := 9) (o := 62) (by decide +kernel)) (Nat.le_of_ble_eq_true rfl) HP_m (show 2 = j_np 308 from by decide +kernel) (show (lg_sl _).length ≤ 7 from Nat.le_of_ble_eq_true rfl) (Nat.le_of_ble_eq_true rfl) (show 8 + (7 + 11) + 20000 ≤ 84000 from Nat.le_of_ble_eq_true rfl) (Nat.le_of_ble_eq_true rfl) hl.1 hH1 hS hc hs (fun H2 locs2 hH2 hS2 => ?_)
      show W p l e room_1 s m #[Value.ref b] below meth c H2 locs2 _ _ (lw_Z below #[Value.ref b] s) (F0 m 927 ls [iV w2])
      have hS := hS2
      refine lv_pop hx hb dl_927 rfl ?_
      refine lv_goto (tgt := 1225) hx hb dl_928 (by decide) ?_
      refine lv_iinc (v := i + Int32.ofInt 6) (lv' := [(3, .int (i + Int32.ofInt 6)), (0, .ref b), (1, .ref (ad 9)), (2, .ref (ad 117))]) hx hb dl_1225 hl (k := 3) rfl rfl (by decide) rfl (fun ls hl => ?_)
      refine lv_goto (tgt := 18) hx hb dl_1228 (by decide) ?_
      exact K _ _ _ _ I2 hH2 hS hl
set_option maxHeartbeats 4000000 in
theorem law_c25 {p : Program} {l : Launch} {e : Env} {s : State} {m : MethodId} {below : List Frame} {meth : Method} {c : Code} {b L : Nat} {xs : Nat → Int32} {g : Nat → Value} {ad : Nat → Nat} {D : va_G} {cA : Nat → ClassId} {H : Heap} {locs : List Loc} {cells slots : Nat} {ls : Array Slot} {i : Int32} {σ : jM} (C0 : lw_At p s m meth c b L xs) (hC : j_Cx g ad s.heap.size D cA vwCl j_TW j_zs j_ks "HundredWordsLaw" "law" code 4 p s m #[.ref b] meth c) (hv : ∀ d : Nat, d ≤ 5 → vp_in (i + Int32.ofNat d) L) (I : Inv σ) (hH : j_H g ad s.heap.size D cA vwCl s H (HP σ)) (hS : va_S (j_A s.heap.size) s.heap H locs) (hc : cells ≤ 600000) (hs : slots ≤ 7302250) (hl : lv_has ls 4 [(0, .ref b), (1, .ref (ad 9)), (2, .ref (ad 117)), (3, .int i)]) (K : ∀ (H2 : Heap) (locs2 : List Loc) (ls2 : Array Slot) (ρ : jM), Inv ρ → j_H g ad s.heap.size D cA vwCl s H2 (HP ρ) → va_S (j_A s.heap.size) s.heap H2 locs2 → lv_has ls2 4 [(3, .int (i + Int32.ofInt 6)), (0, .ref b), (1, .ref (ad 9)), (2, .ref (ad 117))] → W p l e room_1 s m #[Value.ref b] below meth c H2 locs2 cells slots (lw_Z below #[Value.ref b] s) (F0 m 18 ls2 [])) : W p l e room_1 s m #[Value.ref b] below meth c H locs cells slots (lw_Z below #[Value.ref b] s) (F0 m 993 ls []) := by
  obtain ⟨hx, hb, hr, hml, hown, hts, hX, hbl, hlocks, hgv⟩ := id C0
  have hbA : ¬ j_A s.heap.size b := Nat.not_le.mpr hbl
  refine lv_aload_n hx hb dl_993 rfl (lv_at hl 1 rfl) ?_
  refine lv_aload_n hx hb dl_994 rfl (lv_at hl 0 rfl) ?_
  refine lv_iload_n hx hb dl_995 rfl (lv_at hl 3 rfl) ?_
  refine lv_iconst (v := 1) hx hb dl_996 (by decide) ?_
  refine lv_iadd hx hb dl_997 ?_
  refine va_sld hx hb hX hbl hbA hS (i := (i + 1)) (hv 1 (by decide)) dl_998 ?_
  refine lv_if_eq (tgt := 1006) hx hb dl_999 (by decide) (fun hq0 => ?_) (fun hq0 => ?_)
  · skip
    refine lv_iconst (v := 0) hx hb dl_1006 (by decide) ?_
    obtain ⟨n1, n2, w1, w2, τ, ρ, r1, r2, I2⟩ := pm_votes_0 I 
    refine W.eq (g2 := F0 m 1007 ls ((([.int 0] : List Value).map (j_rv g)).reverse ++ .ref (ad 9) :: [])) rfl ?_
    refine j_lawV hC (as := [.int 0]) (a := 9) (rest := []) r1 dl_1007 (j := 157) (Nat.le_of_ble_eq_true rfl) (by decide +kernel) (j_has_in (c := 5) (o := 101) (by decide +kernel)) (Nat.le_of_ble_eq_true rfl) HP_x (show 1 = j_np 157 from by decide +kernel) (show (lg_sl _).length ≤ 2 from Nat.le_of_ble_eq_true rfl) (Nat.le_of_ble_eq_true rfl) (show 8 + (2 + 11) + 20000 ≤ 84000 from Nat.le_of_ble_eq_true rfl) (Nat.le_of_ble_eq_true rfl) hl.1 hH hS hc hs (fun H1 locs1 hH1 hS1 => ?_)
    show W p l e room_1 s m #[Value.ref b] below meth c H1 locs1 _ _ (lw_Z below #[Value.ref b] s) (F0 m 1010 ls [iV w1])
    have hS := hS1
    refine lv_pop hx hb dl_1010 rfl ?_
    refine lv_aload_n hx hb dl_1011 rfl (lv_at hl 2 rfl) ?_
    refine lv_aload_n hx hb dl_1012 rfl (lv_at hl 0 rfl) ?_
    refine lv_iload_n hx hb dl_1013 rfl (lv_at hl 3 rfl) ?_
    refine lv_iconst (v := 1) hx hb dl_1014 (by decide) ?_
    refine lv_iadd hx hb dl_1015 ?_
    refine va_sld hx hb hX hbl hbA hS (i := (i + 1)) (hv 1 (by decide)) dl_1016 ?_
    refine lv_if_eq (tgt := 1024) hx hb dl_1017 (by decide) (fun hq1 => ?_) (fun hq1 => ?_)
    · skip
      refine lv_iconst (v := 0) hx hb dl_1024 (by decide) ?_
      refine W.eq (g2 := F0 m 1025 ls ((([.int 0] : List Value).map (j_rv g)).reverse ++ .ref (ad 117) :: [])) rfl ?_
      refine j_lawV hC (as := [.int 0]) (a := 117) (rest := []) r2 dl_1025 (j := 314) (Nat.le_of_ble_eq_true rfl) (by decide +kernel) (j_has_in (c := 9) (o := 85) (by decide +kernel)) (Nat.le_of_ble_eq_true rfl) HP_m (show 1 = j_np 314 from by decide +kernel) (show (lg_sl _).length ≤ 6 from Nat.le_of_ble_eq_true rfl) (Nat.le_of_ble_eq_true rfl) (show 8 + (6 + 11) + 20000 ≤ 84000 from Nat.le_of_ble_eq_true rfl) (Nat.le_of_ble_eq_true rfl) hl.1 hH1 hS hc hs (fun H2 locs2 hH2 hS2 => ?_)
      show W p l e room_1 s m #[Value.ref b] below meth c H2 locs2 _ _ (lw_Z below #[Value.ref b] s) (F0 m 1028 ls [iV w2])
      have hS := hS2
      refine lv_pop hx hb dl_1028 rfl ?_
      refine lv_goto (tgt := 1225) hx hb dl_1029 (by decide) ?_
      refine lv_iinc (v := i + Int32.ofInt 6) (lv' := [(3, .int (i + Int32.ofInt 6)), (0, .ref b), (1, .ref (ad 9)), (2, .ref (ad 117))]) hx hb dl_1225 hl (k := 3) rfl rfl (by decide) rfl (fun ls hl => ?_)
      refine lv_goto (tgt := 18) hx hb dl_1228 (by decide) ?_
      exact K _ _ _ _ I2 hH2 hS hl
    · exact absurd hq0 hq1
  · skip
    refine lv_iconst (v := 1) hx hb dl_1002 (by decide) ?_
    refine lv_goto (tgt := 1007) hx hb dl_1003 (by decide) ?_
    obtain ⟨n1, n2, w1, w2, τ, ρ, r1, r2, I2⟩ := pm_votes_1 I 
    refine W.eq (g2 := F0 m 1007 ls ((([.int 1] : List Value).map (j_rv g)).reverse ++ .ref (ad 9) :: [])) rfl ?_
    refine j_lawV hC (as := [.int 1]) (a := 9) (rest := []) r1 dl_1007 (j := 157) (Nat.le_of_ble_eq_true rfl) (by decide +kernel) (j_has_in (c := 5) (o := 101) (by decide +kernel)) (Nat.le_of_ble_eq_true rfl) HP_x (show 1 = j_np 157 from by decide +kernel) (show (lg_sl _).length ≤ 2 from Nat.le_of_ble_eq_true rfl) (Nat.le_of_ble_eq_true rfl) (show 8 + (2 + 11) + 20000 ≤ 84000 from Nat.le_of_ble_eq_true rfl) (Nat.le_of_ble_eq_true rfl) hl.1 hH hS hc hs (fun H1 locs1 hH1 hS1 => ?_)
    show W p l e room_1 s m #[Value.ref b] below meth c H1 locs1 _ _ (lw_Z below #[Value.ref b] s) (F0 m 1010 ls [iV w1])
    have hS := hS1
    refine lv_pop hx hb dl_1010 rfl ?_
    refine lv_aload_n hx hb dl_1011 rfl (lv_at hl 2 rfl) ?_
    refine lv_aload_n hx hb dl_1012 rfl (lv_at hl 0 rfl) ?_
    refine lv_iload_n hx hb dl_1013 rfl (lv_at hl 3 rfl) ?_
    refine lv_iconst (v := 1) hx hb dl_1014 (by decide) ?_
    refine lv_iadd hx hb dl_1015 ?_
    refine va_sld hx hb hX hbl hbA hS (i := (i + 1)) (hv 1 (by decide)) dl_1016 ?_
    refine lv_if_eq (tgt := 1024) hx hb dl_1017 (by decide) (fun hq1 => ?_) (fun hq1 => ?_)
    · exact absurd hq1 hq0
    · skip
      refine lv_iconst (v := 1) hx hb dl_1020 (by decide) ?_
      refine lv_goto (tgt := 1025) hx hb dl_1021 (by decide) ?_
      refine W.eq (g2 := F0 m 1025 ls ((([.int 1] : List Value).map (j_rv g)).reverse ++ .ref (ad 117) :: [])) rfl ?_
      refine j_lawV hC (as := [.int 1]) (a := 117) (rest := []) r2 dl_1025 (j := 314) (Nat.le_of_ble_eq_true rfl) (by decide +kernel) (j_has_in (c := 9) (o := 85) (by decide +kernel)) (Nat.le_of_ble_eq_true rfl) HP_m (show 1 = j_np 314 from by decide +kernel) (show (lg_sl _).length ≤ 6 from Nat.le_of_ble_eq_true rfl) (Nat.le_of_ble_eq_true rfl) (show 8 + (6 + 11) + 20000 ≤ 84000 from Nat.le_of_ble_eq_true rfl) (Nat.le_of_ble_eq_true rfl) hl.1 hH1 hS hc hs (fun H2 locs2 hH2 hS2 => ?_)
      show W p l e room_1 s m #[Value.ref b] below meth c H2 locs2 _ _ (lw_Z below #[Value.ref b] s) (F0 m 1028 ls [iV w2])
      have hS := hS2
      refine lv_pop hx hb dl_1028 rfl ?_
      refine lv_goto (tgt := 1225) hx hb dl_1029 (by decide) ?_
      refine lv_iinc (v := i + Int32.ofInt 6) (lv' := [(3, .int (i + Int32.ofInt 6)), (0, .ref b), (1, .ref (ad 9)), (2, .ref (ad 117))]) hx hb dl_1225 hl (k := 3) rfl rfl (by decide) rfl (fun ls hl => ?_)
      refine lv_goto (tgt := 18) hx hb dl_1228 (by decide) ?_
      exact K _ _ _ _ I2 hH2 hS hl
set_option maxHeartbeats 4000000 in
theorem law_c28 {p : Program} {l : Launch} {e : Env} {s : State} {m : MethodId} {below : List Frame} {meth : Method} {c : Code} {b L : Nat} {xs : Nat → Int32} {g : Nat → Value} {ad : Nat → Nat} {D : va_G} {cA : Nat → ClassId} {H : Heap} {locs : List Loc} {cells slots : Nat} {ls : Array Slot} {i : Int32} {σ : jM} (C0 : lw_At p s m meth c b L xs) (hC : j_Cx g ad s.heap.size D cA vwCl j_TW j_zs j_ks "HundredWordsLaw" "law" code 4 p s m #[.ref b] meth c) (hv : ∀ d : Nat, d ≤ 5 → vp_in (i + Int32.ofNat d) L) (I : Inv σ) (hH : j_H g ad s.heap.size D cA vwCl s H (HP σ)) (hS : va_S (j_A s.heap.size) s.heap H locs) (hc : cells ≤ 600000) (hs : slots ≤ 7302250) (hl : lv_has ls 4 [(0, .ref b), (1, .ref (ad 9)), (2, .ref (ad 117)), (3, .int i)]) (K : ∀ (H2 : Heap) (locs2 : List Loc) (ls2 : Array Slot) (ρ : jM), Inv ρ → j_H g ad s.heap.size D cA vwCl s H2 (HP ρ) → va_S (j_A s.heap.size) s.heap H2 locs2 → lv_has ls2 4 [(3, .int (i + Int32.ofInt 6)), (0, .ref b), (1, .ref (ad 9)), (2, .ref (ad 117))] → W p l e room_1 s m #[Value.ref b] below meth c H2 locs2 cells slots (lw_Z below #[Value.ref b] s) (F0 m 18 ls2 [])) : W p l e room_1 s m #[Value.ref b] below meth c H locs cells slots (lw_Z below #[Value.ref b] s) (F0 m 1068 ls []) := by
  obtain ⟨hx, hb, hr, hml, hown, hts, hX, hbl, hlocks, hgv⟩ := id C0
  have hbA : ¬ j_A s.heap.size b := Nat.not_le.mpr hbl
  refine lv_aload_n hx hb dl_1068 rfl (lv_at hl 1 rfl) ?_
  refine lv_aload_n hx hb dl_1069 rfl (lv_at hl 0 rfl) ?_
  refine lv_iload_n hx hb dl_1070 rfl (lv_at hl 3 rfl) ?_
  refine lv_iconst (v := 1) hx hb dl_1071 (by decide) ?_
  refine lv_iadd hx hb dl_1072 ?_
  refine va_sld hx hb hX hbl hbA hS (i := (i + 1)) (hv 1 (by decide)) dl_1073 ?_
  obtain ⟨n1, n2, w1, w2, τ, ρ, r1, r2, I2⟩ := pm_fitting I ((xs (Int32.toNatClampNeg (i + 1))))
  refine W.eq (g2 := F0 m 1074 ls ((([.int (xs (Int32.toNatClampNeg (i + 1)))] : List Value).map (j_rv g)).reverse ++ .ref (ad 9) :: [])) rfl ?_
  refine j_lawV hC (as := [.int (xs (Int32.toNatClampNeg (i + 1)))]) (a := 9) (rest := []) r1 dl_1074 (j := 164) (Nat.le_of_ble_eq_true rfl) (by decide +kernel) (j_has_in (c := 5) (o := 129) (by decide +kernel)) (Nat.le_of_ble_eq_true rfl) HP_x (show 1 = j_np 164 from by decide +kernel) (show (lg_sl _).length ≤ 2 from Nat.le_of_ble_eq_true rfl) (Nat.le_of_ble_eq_true rfl) (show 8 + (2 + 11) + 20000 ≤ 84000 from Nat.le_of_ble_eq_true rfl) (Nat.le_of_ble_eq_true rfl) hl.1 hH hS hc hs (fun H1 locs1 hH1 hS1 => ?_)
  show W p l e room_1 s m #[Value.ref b] below meth c H1 locs1 _ _ (lw_Z below #[Value.ref b] s) (F0 m 1077 ls [iV w1])
  have hS := hS1
  refine lv_pop hx hb dl_1077 rfl ?_
  refine lv_aload_n hx hb dl_1078 rfl (lv_at hl 2 rfl) ?_
  refine lv_aload_n hx hb dl_1079 rfl (lv_at hl 0 rfl) ?_
  refine lv_iload_n hx hb dl_1080 rfl (lv_at hl 3 rfl) ?_
  refine lv_iconst (v := 1) hx hb dl_1081 (by decide) ?_
  refine lv_iadd hx hb dl_1082 ?_
  refine va_sld hx hb hX hbl hbA hS (i := (i + 1)) (hv 1 (by decide)) dl_1083 ?_
  refine W.eq (g2 := F0 m 1084 ls ((([.int (xs (Int32.toNatClampNeg (i + 1)))] : List Value).map (j_rv g)).reverse ++ .ref (ad 117) :: [])) rfl ?_
  refine j_lawV hC (as := [.int (xs (Int32.toNatClampNeg (i + 1)))]) (a := 117) (rest := []) r2 dl_1084 (j := 320) (Nat.le_of_ble_eq_true rfl) (by decide +kernel) (j_has_in (c := 9) (o := 110) (by decide +kernel)) (Nat.le_of_ble_eq_true rfl) HP_m (show 1 = j_np 320 from by decide +kernel) (show (lg_sl _).length ≤ 8 from Nat.le_of_ble_eq_true rfl) (Nat.le_of_ble_eq_true rfl) (show 8 + (8 + 11) + 20000 ≤ 84000 from Nat.le_of_ble_eq_true rfl) (Nat.le_of_ble_eq_true rfl) hl.1 hH1 hS hc hs (fun H2 locs2 hH2 hS2 => ?_)
  show W p l e room_1 s m #[Value.ref b] below meth c H2 locs2 _ _ (lw_Z below #[Value.ref b] s) (F0 m 1087 ls [iV w2])
  have hS := hS2
  refine lv_pop hx hb dl_1087 rfl ?_
  refine lv_goto (tgt := 1225) hx hb dl_1088 (by decide) ?_
  refine lv_iinc (v := i + Int32.ofInt 6) (lv' := [(3, .int (i + Int32.ofInt 6)), (0, .ref b), (1, .ref (ad 9)), (2, .ref (ad 117))]) hx hb dl_1225 hl (k := 3) rfl rfl (by decide) rfl (fun ls hl => ?_)
  refine lv_goto (tgt := 18) hx hb dl_1228 (by decide) ?_
  exact K _ _ _ _ I2 hH2 hS hl
set_option maxHeartbeats 4000000 in
theorem law_c31 {p : Program} {l : Launch} {e : Env} {s : State} {m : MethodId} {below : List Frame} {meth : Method} {c : Code} {b L : Nat} {xs : Nat → Int32} {g : Nat → Value} {ad : Nat → Nat} {D : va_G} {cA : Nat → ClassId} {H : Heap} {locs : List Loc} {cells slots : Nat} {ls : Array Slot} {i : Int32} {σ : jM} (C0 : lw_At p s m meth c b L xs) (hC : j_Cx g ad s.heap.size D cA vwCl j_TW j_zs j_ks "HundredWordsLaw" "law" code 4 p s m #[.ref b] meth c) (hv : ∀ d : Nat, d ≤ 5 → vp_in (i + Int32.ofNat d) L) (I : Inv σ) (hH : j_H g ad s.heap.size D cA vwCl s H (HP σ)) (hS : va_S (j_A s.heap.size) s.heap H locs) (hc : cells ≤ 600000) (hs : slots ≤ 7302250) (hl : lv_has ls 4 [(0, .ref b), (1, .ref (ad 9)), (2, .ref (ad 117)), (3, .int i)]) (K : ∀ (H2 : Heap) (locs2 : List Loc) (ls2 : Array Slot) (ρ : jM), Inv ρ → j_H g ad s.heap.size D cA vwCl s H2 (HP ρ) → va_S (j_A s.heap.size) s.heap H2 locs2 → lv_has ls2 4 [(3, .int (i + Int32.ofInt 6)), (0, .ref b), (1, .ref (ad 9)), (2, .ref (ad 117))] → W p l e room_1 s m #[Value.ref b] below meth c H2 locs2 cells slots (lw_Z below #[Value.ref b] s) (F0 m 18 ls2 [])) : W p l e room_1 s m #[Value.ref b] below meth c H locs cells slots (lw_Z below #[Value.ref b] s) (F0 m 1127 ls []) := by
  obtain ⟨hx, hb, hr, hml, hown, hts, hX, hbl, hlocks, hgv⟩ := id C0
  have hbA : ¬ j_A s.heap.size b := Nat.not_le.mpr hbl
  refine lv_aload_n hx hb dl_1127 rfl (lv_at hl 1 rfl) ?_
  obtain ⟨n1, n2, w1, w2, τ, ρ, r1, r2, I2⟩ := pm_stroke I 
  refine W.eq (g2 := F0 m 1128 ls ((([] : List Value).map (j_rv g)).reverse ++ .ref (ad 9) :: [])) rfl ?_
  refine j_lawV hC (as := []) (a := 9) (rest := []) r1 dl_1128 (j := 169) (Nat.le_of_ble_eq_true rfl) (by decide +kernel) (j_has_in (c := 5) (o := 149) (by decide +kernel)) (Nat.le_of_ble_eq_true rfl) HP_x (show 0 = j_np 169 from by decide +kernel) (show (lg_sl _).length ≤ 2 from Nat.le_of_ble_eq_true rfl) (Nat.le_of_ble_eq_true rfl) (show 8 + (2 + 11) + 20000 ≤ 84000 from Nat.le_of_ble_eq_true rfl) (Nat.le_of_ble_eq_true rfl) hl.1 hH hS hc hs (fun H1 locs1 hH1 hS1 => ?_)
  show W p l e room_1 s m #[Value.ref b] below meth c H1 locs1 _ _ (lw_Z below #[Value.ref b] s) (F0 m 1131 ls [iV w1])
  have hS := hS1
  refine lv_pop hx hb dl_1131 rfl ?_
  refine lv_aload_n hx hb dl_1132 rfl (lv_at hl 2 rfl) ?_
  refine W.eq (g2 := F0 m 1133 ls ((([] : List Value).map (j_rv g)).reverse ++ .ref (ad 117) :: [])) rfl ?_
  refine j_lawV hC (as := []) (a := 117) (rest := []) r2 dl_1133 (j := 323) (Nat.le_of_ble_eq_true rfl) (by decide +kernel) (j_has_in (c := 9) (o := 122) (by decide +kernel)) (Nat.le_of_ble_eq_true rfl) HP_m (show 0 = j_np 323 from by decide +kernel) (show (lg_sl _).length ≤ 2 from Nat.le_of_ble_eq_true rfl) (Nat.le_of_ble_eq_true rfl) (show 8 + (2 + 11) + 20000 ≤ 84000 from Nat.le_of_ble_eq_true rfl) (Nat.le_of_ble_eq_true rfl) hl.1 hH1 hS hc hs (fun H2 locs2 hH2 hS2 => ?_)
  show W p l e room_1 s m #[Value.ref b] below meth c H2 locs2 _ _ (lw_Z below #[Value.ref b] s) (F0 m 1136 ls [iV w2])
  have hS := hS2
  refine lv_pop hx hb dl_1136 rfl ?_
  refine lv_goto (tgt := 1225) hx hb dl_1137 (by decide) ?_
  refine lv_iinc (v := i + Int32.ofInt 6) (lv' := [(3, .int (i + Int32.ofInt 6)), (0, .ref b), (1, .ref (ad 9)), (2, .ref (ad 117))]) hx hb dl_1225 hl (k := 3) rfl rfl (by decide) rfl (fun ls hl => ?_)
  refine lv_goto (tgt := 18) hx hb dl_1228 (by decide) ?_
  exact K _ _ _ _ I2 hH2 hS hl
set_option maxHeartbeats 4000000 in
theorem law_c34 {p : Program} {l : Launch} {e : Env} {s : State} {m : MethodId} {below : List Frame} {meth : Method} {c : Code} {b L : Nat} {xs : Nat → Int32} {g : Nat → Value} {ad : Nat → Nat} {D : va_G} {cA : Nat → ClassId} {H : Heap} {locs : List Loc} {cells slots : Nat} {ls : Array Slot} {i : Int32} {σ : jM} (C0 : lw_At p s m meth c b L xs) (hC : j_Cx g ad s.heap.size D cA vwCl j_TW j_zs j_ks "HundredWordsLaw" "law" code 4 p s m #[.ref b] meth c) (hv : ∀ d : Nat, d ≤ 5 → vp_in (i + Int32.ofNat d) L) (I : Inv σ) (hH : j_H g ad s.heap.size D cA vwCl s H (HP σ)) (hS : va_S (j_A s.heap.size) s.heap H locs) (hc : cells ≤ 600000) (hs : slots ≤ 7302250) (hl : lv_has ls 4 [(0, .ref b), (1, .ref (ad 9)), (2, .ref (ad 117)), (3, .int i)]) (K : ∀ (H2 : Heap) (locs2 : List Loc) (ls2 : Array Slot) (ρ : jM), Inv ρ → j_H g ad s.heap.size D cA vwCl s H2 (HP ρ) → va_S (j_A s.heap.size) s.heap H2 locs2 → lv_has ls2 4 [(3, .int (i + Int32.ofInt 6)), (0, .ref b), (1, .ref (ad 9)), (2, .ref (ad 117))] → W p l e room_1 s m #[Value.ref b] below meth c H2 locs2 cells slots (lw_Z below #[Value.ref b] s) (F0 m 18 ls2 [])) : W p l e room_1 s m #[Value.ref b] below meth c H locs cells slots (lw_Z below #[Value.ref b] s) (F0 m 1166 ls []) := by
  obtain ⟨hx, hb, hr, hml, hown, hts, hX, hbl, hlocks, hgv⟩ := id C0
  have hbA : ¬ j_A s.heap.size b := Nat.not_le.mpr hbl
  refine lv_aload_n hx hb dl_1166 rfl (lv_at hl 1 rfl) ?_
  refine lv_aload_n hx hb dl_1167 rfl (lv_at hl 0 rfl) ?_
  refine lv_iload_n hx hb dl_1168 rfl (lv_at hl 3 rfl) ?_
  refine lv_iconst (v := 1) hx hb dl_1169 (by decide) ?_
  refine lv_iadd hx hb dl_1170 ?_
  refine va_sld hx hb hX hbl hbA hS (i := (i + 1)) (hv 1 (by decide)) dl_1171 ?_
  obtain ⟨n1, n2, w1, w2, τ, ρ, r1, r2, I2⟩ := pm_octet I ((xs (Int32.toNatClampNeg (i + 1))))
  refine W.eq (g2 := F0 m 1172 ls ((([.int (xs (Int32.toNatClampNeg (i + 1)))] : List Value).map (j_rv g)).reverse ++ .ref (ad 9) :: [])) rfl ?_
  refine j_lawV hC (as := [.int (xs (Int32.toNatClampNeg (i + 1)))]) (a := 9) (rest := []) r1 dl_1172 (j := 205) (Nat.le_of_ble_eq_true rfl) (by decide +kernel) (j_has_in (c := 6) (o := 66) (by decide +kernel)) (Nat.le_of_ble_eq_true rfl) HP_x (show 1 = j_np 205 from by decide +kernel) (show (lg_sl _).length ≤ 2 from Nat.le_of_ble_eq_true rfl) (Nat.le_of_ble_eq_true rfl) (show 8 + (2 + 11) + 20000 ≤ 84000 from Nat.le_of_ble_eq_true rfl) (Nat.le_of_ble_eq_true rfl) hl.1 hH hS hc hs (fun H1 locs1 hH1 hS1 => ?_)
  show W p l e room_1 s m #[Value.ref b] below meth c H1 locs1 _ _ (lw_Z below #[Value.ref b] s) (F0 m 1175 ls [iV w1])
  have hS := hS1
  refine lv_pop hx hb dl_1175 rfl ?_
  refine lv_aload_n hx hb dl_1176 rfl (lv_at hl 2 rfl) ?_
  refine lv_aload_n hx hb dl_1177 rfl (lv_at hl 0 rfl) ?_
  refine lv_iload_n hx hb dl_1178 rfl (lv_at hl 3 rfl) ?_
  refine lv_iconst (v := 1) hx hb dl_1179 (by decide) ?_
  refine lv_iadd hx hb dl_1180 ?_
  refine va_sld hx hb hX hbl hbA hS (i := (i + 1)) (hv 1 (by decide)) dl_1181 ?_
  refine W.eq (g2 := F0 m 1182 ls ((([.int (xs (Int32.toNatClampNeg (i + 1)))] : List Value).map (j_rv g)).reverse ++ .ref (ad 117) :: [])) rfl ?_
  refine j_lawV hC (as := [.int (xs (Int32.toNatClampNeg (i + 1)))]) (a := 117) (rest := []) r2 dl_1182 (j := 356) (Nat.le_of_ble_eq_true rfl) (by decide +kernel) (j_has_in (c := 10) (o := 17) (by decide +kernel)) (Nat.le_of_ble_eq_true rfl) HP_m (show 1 = j_np 356 from by decide +kernel) (show (lg_sl _).length ≤ 2 from Nat.le_of_ble_eq_true rfl) (Nat.le_of_ble_eq_true rfl) (show 8 + (2 + 11) + 20000 ≤ 84000 from Nat.le_of_ble_eq_true rfl) (Nat.le_of_ble_eq_true rfl) hl.1 hH1 hS hc hs (fun H2 locs2 hH2 hS2 => ?_)
  show W p l e room_1 s m #[Value.ref b] below meth c H2 locs2 _ _ (lw_Z below #[Value.ref b] s) (F0 m 1185 ls [iV w2])
  have hS := hS2
  refine lv_pop hx hb dl_1185 rfl ?_
  refine lv_goto (tgt := 1225) hx hb dl_1186 (by decide) ?_
  refine lv_iinc (v := i + Int32.ofInt 6) (lv' := [(3, .int (i + Int32.ofInt 6)), (0, .ref b), (1, .ref (ad 9)), (2, .ref (ad 117))]) hx hb dl_1225 hl (k := 3) rfl rfl (by decide) rfl (fun ls hl => ?_)
  refine lv_goto (tgt := 18) hx hb dl_1228 (by decide) ?_
  exact K _ _ _ _ I2 hH2 hS hl
theorem law_cd {p : Program} {l : Launch} {e : Env} {s : State} {m : MethodId} {below : List Frame} {meth : Method} {c : Code} {b L : Nat} {xs : Nat → Int32} {g : Nat → Value} {ad : Nat → Nat} {D : va_G} {cA : Nat → ClassId} {H : Heap} {locs : List Loc} {cells slots : Nat} {ls : Array Slot} {i : Int32} {σ : jM} (C0 : lw_At p s m meth c b L xs) (hC : j_Cx g ad s.heap.size D cA vwCl j_TW j_zs j_ks "HundredWordsLaw" "law" code 4 p s m #[.ref b] meth c) (hv : ∀ d : Nat, d ≤ 5 → vp_in (i + Int32.ofNat d) L) (I : Inv σ) (hH : j_H g ad s.heap.size D cA vwCl s H (HP σ)) (hS : va_S (j_A s.heap.size) s.heap H locs) (hc : cells ≤ 600000) (hs : slots ≤ 7302250) (hl : lv_has ls 4 [(0, .ref b), (1, .ref (ad 9)), (2, .ref (ad 117)), (3, .int i)]) (K : ∀ (H2 : Heap) (locs2 : List Loc) (ls2 : Array Slot) (ρ : jM), Inv ρ → j_H g ad s.heap.size D cA vwCl s H2 (HP ρ) → va_S (j_A s.heap.size) s.heap H2 locs2 → lv_has ls2 4 [(3, .int (i + Int32.ofInt 6)), (0, .ref b), (1, .ref (ad 9)), (2, .ref (ad 117))] → W p l e room_1 s m #[Value.ref b] below meth c H2 locs2 cells slots (lw_Z below #[Value.ref b] s) (F0 m 18 ls2 [])) : W p l e room_1 s m #[Value.ref b] below meth c H locs cells slots (lw_Z below #[Value.ref b] s) (F0 m 1225 ls []) := by
  obtain ⟨hx, hb, hr, hml, hown, hts, hX, hbl, hlocks, hgv⟩ := id C0
  have hbA : ¬ j_A s.heap.size b := Nat.not_le.mpr hbl
  refine lv_iinc (v := i + Int32.ofInt 6) (lv' := [(3, .int (i + Int32.ofInt 6)), (0, .ref b), (1, .ref (ad 9)), (2, .ref (ad 117))]) hx hb dl_1225 hl (k := 3) rfl rfl (by decide) rfl (fun ls hl => ?_)
  refine lv_goto (tgt := 18) hx hb dl_1228 (by decide) ?_
  exact K _ _ _ _ I hH hS hl
